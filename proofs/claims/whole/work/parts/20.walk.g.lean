-- HoleWater$Row.<init>(I)V
theorem dX6_init_0 : decode cX6_init 0 = .ok (.aload_n 0, 1) := by decide +kernel
theorem dX6_init_1 : decode cX6_init 1 = .ok (.invokespecial 1, 3) := by decide +kernel
theorem dX6_init_4 : decode cX6_init 4 = .ok (.aload_n 0, 1) := by decide +kernel
theorem dX6_init_5 : decode cX6_init 5 = .ok (.iconst 0, 1) := by decide +kernel
theorem dX6_init_6 : decode cX6_init 6 = .ok (.putfield 7, 3) := by decide +kernel
theorem dX6_init_9 : decode cX6_init 9 = .ok (.aload_n 0, 1) := by decide +kernel
theorem dX6_init_10 : decode cX6_init 10 = .ok (.iconst 0, 1) := by decide +kernel
theorem dX6_init_11 : decode cX6_init 11 = .ok (.iload_n 1, 1) := by decide +kernel
theorem dX6_init_12 : decode cX6_init 12 = .ok (.invokestatic 13, 3) := by decide +kernel
theorem dX6_init_15 : decode cX6_init 15 = .ok (.newarray .int, 2) := by decide +kernel
theorem dX6_init_17 : decode cX6_init 17 = .ok (.putfield 19, 3) := by decide +kernel
theorem dX6_init_20 : decode cX6_init 20 = .ok (.return_, 1) := by decide +kernel
def D_X6_init (N : Nat) (h : mh_H) (l0 : Nat) (l1 : Int32) : Option mh_H :=
  (pI h 6 l0 1 (0 : Int32)).bind fun h1 =>
  (nA h1 0 (mh_max (0 : Int32) l1)).bind fun h2 =>
  (pR h2 6 l0 0 (mh_n h1)).bind fun h3 =>
  some h3
set_option maxHeartbeats 4000000 in
set_option maxRecDepth 100000 in
theorem T_X6_init {P : mh_E → Prop} {N d : Nat} (hd : 1 ≤ d) {z : mh_H} {h : mh_H} {l0 : Nat} {l1 : Int32} (hq : D_X6_init N h l0 l1 = some z) : mh_go P d mX6_init 0 [some (.ref l0), some (.int l1)] [] h none z := by
  unfold D_X6_init at hq
  refine st_aload_n (pc := 0) dX6_init_0 rfl ?_
  refine st_obj (pc := 1) dX6_init_1 wd_139 wd_oi wd_oc (Nat.le_trans (by decide) hd) (Nat.le_of_ble_eq_true rfl) ?_
  refine st_aload_n (pc := 4) dX6_init_4 rfl ?_
  refine st_iconst (pc := 5) (v := (0 : Int32)) dX6_init_5 rfl ?_
  refine bd_puti (pc := 6) hq dX6_init_6 fl_6_7_6 (Or.inl rfl) rfl (fun h1 hq => ?_)
  refine st_aload_n (pc := 9) dX6_init_9 rfl ?_
  refine st_iconst (pc := 10) (v := (0 : Int32)) dX6_init_10 rfl ?_
  refine st_iload_n (pc := 11) dX6_init_11 rfl ?_
  refine st_mmax (pc := 12) dX6_init_12 wd_140 (Nat.le_trans (by decide) hd) (Nat.le_of_ble_eq_true rfl) ?_
  refine bd_newa (pc := 15) hq dX6_init_15 (fun h2 hq => ?_)
  refine bd_putr (pc := 17) hq dX6_init_17 fl_6_19_6 (Or.inr ⟨rfl, rfl⟩) rfl (Or.inr ⟨_, rfl⟩) (fun h3 hq => ?_)
  exact bd_vret (pc := 20) hq dX6_init_20 rfl
-- HoleWater$Reader.<init>()V
theorem dX5_init_0 : decode cX5_init 0 = .ok (.aload_n 0, 1) := by decide +kernel
theorem dX5_init_1 : decode cX5_init 1 = .ok (.invokespecial 3, 3) := by decide +kernel
theorem dX5_init_4 : decode cX5_init 4 = .ok (.aload_n 0, 1) := by decide +kernel
theorem dX5_init_5 : decode cX5_init 5 = .ok (.iconst 4, 1) := by decide +kernel
theorem dX5_init_6 : decode cX5_init 6 = .ok (.newarray .int, 2) := by decide +kernel
theorem dX5_init_8 : decode cX5_init 8 = .ok (.putfield 9, 3) := by decide +kernel
theorem dX5_init_11 : decode cX5_init 11 = .ok (.aload_n 0, 1) := by decide +kernel
theorem dX5_init_12 : decode cX5_init 12 = .ok (.new 15, 3) := by decide +kernel
theorem dX5_init_15 : decode cX5_init 15 = .ok (.dup, 1) := by decide +kernel
theorem dX5_init_16 : decode cX5_init 16 = .ok (.bipush 61, 2) := by decide +kernel
theorem dX5_init_18 : decode cX5_init 18 = .ok (.invokespecial 17, 3) := by decide +kernel
theorem dX5_init_21 : decode cX5_init 21 = .ok (.putfield 20, 3) := by decide +kernel
theorem dX5_init_24 : decode cX5_init 24 = .ok (.aload_n 0, 1) := by decide +kernel
theorem dX5_init_25 : decode cX5_init 25 = .ok (.bipush 61, 2) := by decide +kernel
theorem dX5_init_27 : decode cX5_init 27 = .ok (.newarray .int, 2) := by decide +kernel
theorem dX5_init_29 : decode cX5_init 29 = .ok (.putfield 24, 3) := by decide +kernel
theorem dX5_init_32 : decode cX5_init 32 = .ok (.aload_n 0, 1) := by decide +kernel
theorem dX5_init_33 : decode cX5_init 33 = .ok (.iconst 0, 1) := by decide +kernel
theorem dX5_init_34 : decode cX5_init 34 = .ok (.putfield 27, 3) := by decide +kernel
theorem dX5_init_37 : decode cX5_init 37 = .ok (.aload_n 0, 1) := by decide +kernel
theorem dX5_init_38 : decode cX5_init 38 = .ok (.iconst 0, 1) := by decide +kernel
theorem dX5_init_39 : decode cX5_init 39 = .ok (.newarray .int, 2) := by decide +kernel
theorem dX5_init_41 : decode cX5_init 41 = .ok (.putfield 31, 3) := by decide +kernel
theorem dX5_init_44 : decode cX5_init 44 = .ok (.aload_n 0, 1) := by decide +kernel
theorem dX5_init_45 : decode cX5_init 45 = .ok (.iconst 0, 1) := by decide +kernel
theorem dX5_init_46 : decode cX5_init 46 = .ok (.putfield 34, 3) := by decide +kernel
theorem dX5_init_49 : decode cX5_init 49 = .ok (.aload_n 0, 1) := by decide +kernel
theorem dX5_init_50 : decode cX5_init 50 = .ok (.ldc 37, 2) := by decide +kernel
theorem dX5_init_52 : decode cX5_init 52 = .ok (.putfield 39, 3) := by decide +kernel
theorem dX5_init_55 : decode cX5_init 55 = .ok (.aload_n 0, 1) := by decide +kernel
theorem dX5_init_56 : decode cX5_init 56 = .ok (.iconst 0, 1) := by decide +kernel
theorem dX5_init_57 : decode cX5_init 57 = .ok (.putfield 43, 3) := by decide +kernel
theorem dX5_init_60 : decode cX5_init 60 = .ok (.aload_n 0, 1) := by decide +kernel
theorem dX5_init_61 : decode cX5_init 61 = .ok (.iconst 0, 1) := by decide +kernel
theorem dX5_init_62 : decode cX5_init 62 = .ok (.putfield 46, 3) := by decide +kernel
theorem dX5_init_65 : decode cX5_init 65 = .ok (.return_, 1) := by decide +kernel
def D_X5_init (N : Nat) (h : mh_H) (l0 : Nat) : Option mh_H :=
  (nA h 0 (4 : Int32)).bind fun h1 =>
  (pR h1 5 l0 0 (mh_n h)).bind fun h2 =>
  (nO h2 6).bind fun h3 =>
  (D_X6_init N h3 (mh_n h2) (61 : Int32)).bind fun q4 =>
  (pR q4 5 l0 1 (mh_n h2)).bind fun h5 =>
  (nA h5 0 (61 : Int32)).bind fun h6 =>
  (pR h6 5 l0 2 (mh_n h5)).bind fun h7 =>
  (pI h7 5 l0 3 (0 : Int32)).bind fun h8 =>
  (nA h8 0 (0 : Int32)).bind fun h9 =>
  (pR h9 5 l0 4 (mh_n h8)).bind fun h10 =>
  (pI h10 5 l0 5 (0 : Int32)).bind fun h11 =>
  (pR h11 5 l0 6 1000000001).bind fun h12 =>
  (pI h12 5 l0 7 (0 : Int32)).bind fun h13 =>
  (pB h13 5 l0 8 (0 : Int32)).bind fun h14 =>
  some h14
set_option maxHeartbeats 4000000 in
set_option maxRecDepth 100000 in
theorem T_X5_init {P : mh_E → Prop} {N d : Nat} (hd : 2 ≤ d) {z : mh_H} {h : mh_H} {l0 : Nat} (hq : D_X5_init N h l0 = some z) : mh_go P d mX5_init 0 [some (.ref l0)] [] h none z := by
  unfold D_X5_init at hq
  refine st_aload_n (pc := 0) dX5_init_0 rfl ?_
  refine st_obj (pc := 1) dX5_init_1 wd_248 wd_oi wd_oc (Nat.le_trans (by decide) hd) (Nat.le_of_ble_eq_true rfl) ?_
  refine st_aload_n (pc := 4) dX5_init_4 rfl ?_
  refine st_iconst (pc := 5) (v := (4 : Int32)) dX5_init_5 rfl ?_
  refine bd_newa (pc := 6) hq dX5_init_6 (fun h1 hq => ?_)
  refine bd_putr (pc := 8) hq dX5_init_8 fl_5_9_5 (Or.inr ⟨rfl, rfl⟩) rfl (Or.inr ⟨_, rfl⟩) (fun h2 hq => ?_)
  refine st_aload_n (pc := 11) dX5_init_11 rfl ?_
  refine bd_new (pc := 12) (ci := 6) hq dX5_init_12 (by decide) wd_249 wd_135 wd_5 (fun h3 hq => ?_)
  refine st_dup (pc := 15) dX5_init_15 rfl ?_
  refine st_bipush (pc := 16) (v := (61 : Int32)) dX5_init_16 (by decide) ?_
  obtain ⟨q4, e4, hq⟩ := mh_ob hq
  refine st_invI (pc := 18) (b := mh_n h2) (vs := [.int (61 : Int32)]) (rest := [.ref (mh_n h2), .ref l0]) (st2 := [.ref (mh_n h2), .ref l0]) dX5_init_18 okX6_init wd_250 wd_137 rfl pdX6_init rfl rfl rfl rfl (Nat.le_trans (by decide) hd) (Nat.le_of_ble_eq_true rfl) (T_X6_init (Nat.le_refl _) e4) rfl ?_
  refine bd_putr (pc := 21) hq dX5_init_21 fl_5_20_5 (Or.inr ⟨rfl, rfl⟩) rfl (Or.inl ⟨_, rfl⟩) (fun h5 hq => ?_)
  refine st_aload_n (pc := 24) dX5_init_24 rfl ?_
  refine st_bipush (pc := 25) (v := (61 : Int32)) dX5_init_25 (by decide) ?_
  refine bd_newa (pc := 27) hq dX5_init_27 (fun h6 hq => ?_)
  refine bd_putr (pc := 29) hq dX5_init_29 fl_5_24_5 (Or.inr ⟨rfl, rfl⟩) rfl (Or.inr ⟨_, rfl⟩) (fun h7 hq => ?_)
  refine st_aload_n (pc := 32) dX5_init_32 rfl ?_
  refine st_iconst (pc := 33) (v := (0 : Int32)) dX5_init_33 rfl ?_
  refine bd_puti (pc := 34) hq dX5_init_34 fl_5_27_5 (Or.inl rfl) rfl (fun h8 hq => ?_)
  refine st_aload_n (pc := 37) dX5_init_37 rfl ?_
  refine st_iconst (pc := 38) (v := (0 : Int32)) dX5_init_38 rfl ?_
  refine bd_newa (pc := 39) hq dX5_init_39 (fun h9 hq => ?_)
  refine bd_putr (pc := 41) hq dX5_init_41 fl_5_31_5 (Or.inl rfl) rfl (Or.inr ⟨_, rfl⟩) (fun h10 hq => ?_)
  refine st_aload_n (pc := 44) dX5_init_44 rfl ?_
  refine st_iconst (pc := 45) (v := (0 : Int32)) dX5_init_45 rfl ?_
  refine bd_puti (pc := 46) hq dX5_init_46 fl_5_34_5 (Or.inl rfl) rfl (fun h11 hq => ?_)
  refine st_aload_n (pc := 49) dX5_init_49 rfl ?_
  refine st_ldcS (pc := 50) (i := 0) (tx := "hdkf") dX5_init_50 (by decide) ?_
  refine bd_putr (pc := 52) hq dX5_init_52 fl_5_39_5 (Or.inl rfl) rfl (Or.inl ⟨_, rfl⟩) (fun h12 hq => ?_)
  refine st_aload_n (pc := 55) dX5_init_55 rfl ?_
  refine st_iconst (pc := 56) (v := (0 : Int32)) dX5_init_56 rfl ?_
  refine bd_puti (pc := 57) hq dX5_init_57 fl_5_43_5 (Or.inl rfl) rfl (fun h13 hq => ?_)
  refine st_aload_n (pc := 60) dX5_init_60 rfl ?_
  refine st_iconst (pc := 61) (v := (0 : Int32)) dX5_init_61 rfl ?_
  refine bd_putb (pc := 62) hq dX5_init_62 fl_5_46_5 (Or.inl rfl) rfl (fun h14 hq => ?_)
  exact bd_vret (pc := 65) hq dX5_init_65 rfl
-- HoleWater$Water.<init>()V
theorem dX8_init_0 : decode cX8_init 0 = .ok (.aload_n 0, 1) := by decide +kernel
theorem dX8_init_1 : decode cX8_init 1 = .ok (.invokespecial 3, 3) := by decide +kernel
theorem dX8_init_4 : decode cX8_init 4 = .ok (.aload_n 0, 1) := by decide +kernel
theorem dX8_init_5 : decode cX8_init 5 = .ok (.iconst 0, 1) := by decide +kernel
theorem dX8_init_6 : decode cX8_init 6 = .ok (.putfield 9, 3) := by decide +kernel
theorem dX8_init_9 : decode cX8_init 9 = .ok (.aload_n 0, 1) := by decide +kernel
theorem dX8_init_10 : decode cX8_init 10 = .ok (.iconst 0, 1) := by decide +kernel
theorem dX8_init_11 : decode cX8_init 11 = .ok (.putfield 15, 3) := by decide +kernel
theorem dX8_init_14 : decode cX8_init 14 = .ok (.aload_n 0, 1) := by decide +kernel
theorem dX8_init_15 : decode cX8_init 15 = .ok (.iconst 0, 1) := by decide +kernel
theorem dX8_init_16 : decode cX8_init 16 = .ok (.putfield 19, 3) := by decide +kernel
theorem dX8_init_19 : decode cX8_init 19 = .ok (.aload_n 0, 1) := by decide +kernel
theorem dX8_init_20 : decode cX8_init 20 = .ok (.iconst 4, 1) := by decide +kernel
theorem dX8_init_21 : decode cX8_init 21 = .ok (.newarray .int, 2) := by decide +kernel
theorem dX8_init_23 : decode cX8_init 23 = .ok (.putfield 22, 3) := by decide +kernel
theorem dX8_init_26 : decode cX8_init 26 = .ok (.aload_n 0, 1) := by decide +kernel
theorem dX8_init_27 : decode cX8_init 27 = .ok (.bipush 28, 2) := by decide +kernel
theorem dX8_init_29 : decode cX8_init 29 = .ok (.newarray .int, 2) := by decide +kernel
theorem dX8_init_31 : decode cX8_init 31 = .ok (.putfield 26, 3) := by decide +kernel
theorem dX8_init_34 : decode cX8_init 34 = .ok (.aload_n 0, 1) := by decide +kernel
theorem dX8_init_35 : decode cX8_init 35 = .ok (.bipush 80, 2) := by decide +kernel
theorem dX8_init_37 : decode cX8_init 37 = .ok (.newarray .int, 2) := by decide +kernel
theorem dX8_init_39 : decode cX8_init 39 = .ok (.putfield 29, 3) := by decide +kernel
theorem dX8_init_42 : decode cX8_init 42 = .ok (.aload_n 0, 1) := by decide +kernel
theorem dX8_init_43 : decode cX8_init 43 = .ok (.sipush 4800, 3) := by decide +kernel
theorem dX8_init_46 : decode cX8_init 46 = .ok (.newarray .int, 2) := by decide +kernel
theorem dX8_init_48 : decode cX8_init 48 = .ok (.putfield 32, 3) := by decide +kernel
theorem dX8_init_51 : decode cX8_init 51 = .ok (.aload_n 0, 1) := by decide +kernel
theorem dX8_init_52 : decode cX8_init 52 = .ok (.bipush 120, 2) := by decide +kernel
theorem dX8_init_54 : decode cX8_init 54 = .ok (.newarray .int, 2) := by decide +kernel
theorem dX8_init_56 : decode cX8_init 56 = .ok (.putfield 35, 3) := by decide +kernel
theorem dX8_init_59 : decode cX8_init 59 = .ok (.aload_n 0, 1) := by decide +kernel
theorem dX8_init_60 : decode cX8_init 60 = .ok (.bipush 16, 2) := by decide +kernel
theorem dX8_init_62 : decode cX8_init 62 = .ok (.newarray .int, 2) := by decide +kernel
theorem dX8_init_64 : decode cX8_init 64 = .ok (.putfield 38, 3) := by decide +kernel
theorem dX8_init_67 : decode cX8_init 67 = .ok (.aload_n 0, 1) := by decide +kernel
theorem dX8_init_68 : decode cX8_init 68 = .ok (.bipush 16, 2) := by decide +kernel
theorem dX8_init_70 : decode cX8_init 70 = .ok (.newarray .int, 2) := by decide +kernel
theorem dX8_init_72 : decode cX8_init 72 = .ok (.putfield 41, 3) := by decide +kernel
theorem dX8_init_75 : decode cX8_init 75 = .ok (.aload_n 0, 1) := by decide +kernel
theorem dX8_init_76 : decode cX8_init 76 = .ok (.sipush 1536, 3) := by decide +kernel
theorem dX8_init_79 : decode cX8_init 79 = .ok (.newarray .int, 2) := by decide +kernel
theorem dX8_init_81 : decode cX8_init 81 = .ok (.putfield 44, 3) := by decide +kernel
theorem dX8_init_84 : decode cX8_init 84 = .ok (.aload_n 0, 1) := by decide +kernel
theorem dX8_init_85 : decode cX8_init 85 = .ok (.bipush 24, 2) := by decide +kernel
theorem dX8_init_87 : decode cX8_init 87 = .ok (.newarray .int, 2) := by decide +kernel
theorem dX8_init_89 : decode cX8_init 89 = .ok (.putfield 47, 3) := by decide +kernel
theorem dX8_init_92 : decode cX8_init 92 = .ok (.return_, 1) := by decide +kernel
def D_X8_init (N : Nat) (h : mh_H) (l0 : Nat) : Option mh_H :=
  (pI h 8 l0 0 (0 : Int32)).bind fun h1 =>
  (pB h1 8 l0 1 (0 : Int32)).bind fun h2 =>
  (pI h2 8 l0 2 (0 : Int32)).bind fun h3 =>
  (nA h3 0 (4 : Int32)).bind fun h4 =>
  (pR h4 8 l0 3 (mh_n h3)).bind fun h5 =>
  (nA h5 0 (28 : Int32)).bind fun h6 =>
  (pR h6 8 l0 4 (mh_n h5)).bind fun h7 =>
  (nA h7 0 (80 : Int32)).bind fun h8 =>
  (pR h8 8 l0 5 (mh_n h7)).bind fun h9 =>
  (nA h9 0 (4800 : Int32)).bind fun h10 =>
  (pR h10 8 l0 6 (mh_n h9)).bind fun h11 =>
  (nA h11 0 (120 : Int32)).bind fun h12 =>
  (pR h12 8 l0 7 (mh_n h11)).bind fun h13 =>
  (nA h13 0 (16 : Int32)).bind fun h14 =>
  (pR h14 8 l0 8 (mh_n h13)).bind fun h15 =>
  (nA h15 0 (16 : Int32)).bind fun h16 =>
  (pR h16 8 l0 9 (mh_n h15)).bind fun h17 =>
  (nA h17 0 (1536 : Int32)).bind fun h18 =>
  (pR h18 8 l0 10 (mh_n h17)).bind fun h19 =>
  (nA h19 0 (24 : Int32)).bind fun h20 =>
  (pR h20 8 l0 11 (mh_n h19)).bind fun h21 =>
  some h21
set_option maxHeartbeats 4000000 in
set_option maxRecDepth 100000 in
theorem T_X8_init {P : mh_E → Prop} {N d : Nat} (hd : 1 ≤ d) {z : mh_H} {h : mh_H} {l0 : Nat} (hq : D_X8_init N h l0 = some z) : mh_go P d mX8_init 0 [some (.ref l0)] [] h none z := by
  unfold D_X8_init at hq
  refine st_aload_n (pc := 0) dX8_init_0 rfl ?_
  refine st_obj (pc := 1) dX8_init_1 wd_44 wd_oi wd_oc (Nat.le_trans (by decide) hd) (Nat.le_of_ble_eq_true rfl) ?_
  refine st_aload_n (pc := 4) dX8_init_4 rfl ?_
  refine st_iconst (pc := 5) (v := (0 : Int32)) dX8_init_5 rfl ?_
  refine bd_puti (pc := 6) hq dX8_init_6 fl_8_9_8 (Or.inl rfl) rfl (fun h1 hq => ?_)
  refine st_aload_n (pc := 9) dX8_init_9 rfl ?_
  refine st_iconst (pc := 10) (v := (0 : Int32)) dX8_init_10 rfl ?_
  refine bd_putb (pc := 11) hq dX8_init_11 fl_8_15_8 (Or.inl rfl) rfl (fun h2 hq => ?_)
  refine st_aload_n (pc := 14) dX8_init_14 rfl ?_
  refine st_iconst (pc := 15) (v := (0 : Int32)) dX8_init_15 rfl ?_
  refine bd_puti (pc := 16) hq dX8_init_16 fl_8_19_8 (Or.inl rfl) rfl (fun h3 hq => ?_)
  refine st_aload_n (pc := 19) dX8_init_19 rfl ?_
  refine st_iconst (pc := 20) (v := (4 : Int32)) dX8_init_20 rfl ?_
  refine bd_newa (pc := 21) hq dX8_init_21 (fun h4 hq => ?_)
  refine bd_putr (pc := 23) hq dX8_init_23 fl_8_22_8 (Or.inr ⟨rfl, rfl⟩) rfl (Or.inr ⟨_, rfl⟩) (fun h5 hq => ?_)
  refine st_aload_n (pc := 26) dX8_init_26 rfl ?_
  refine st_bipush (pc := 27) (v := (28 : Int32)) dX8_init_27 (by decide) ?_
  refine bd_newa (pc := 29) hq dX8_init_29 (fun h6 hq => ?_)
  refine bd_putr (pc := 31) hq dX8_init_31 fl_8_26_8 (Or.inr ⟨rfl, rfl⟩) rfl (Or.inr ⟨_, rfl⟩) (fun h7 hq => ?_)
  refine st_aload_n (pc := 34) dX8_init_34 rfl ?_
  refine st_bipush (pc := 35) (v := (80 : Int32)) dX8_init_35 (by decide) ?_
  refine bd_newa (pc := 37) hq dX8_init_37 (fun h8 hq => ?_)
  refine bd_putr (pc := 39) hq dX8_init_39 fl_8_29_8 (Or.inr ⟨rfl, rfl⟩) rfl (Or.inr ⟨_, rfl⟩) (fun h9 hq => ?_)
  refine st_aload_n (pc := 42) dX8_init_42 rfl ?_
  refine st_sipush (pc := 43) (v := (4800 : Int32)) dX8_init_43 (by decide) ?_
  refine bd_newa (pc := 46) hq dX8_init_46 (fun h10 hq => ?_)
  refine bd_putr (pc := 48) hq dX8_init_48 fl_8_32_8 (Or.inr ⟨rfl, rfl⟩) rfl (Or.inr ⟨_, rfl⟩) (fun h11 hq => ?_)
  refine st_aload_n (pc := 51) dX8_init_51 rfl ?_
  refine st_bipush (pc := 52) (v := (120 : Int32)) dX8_init_52 (by decide) ?_
  refine bd_newa (pc := 54) hq dX8_init_54 (fun h12 hq => ?_)
  refine bd_putr (pc := 56) hq dX8_init_56 fl_8_35_8 (Or.inr ⟨rfl, rfl⟩) rfl (Or.inr ⟨_, rfl⟩) (fun h13 hq => ?_)
  refine st_aload_n (pc := 59) dX8_init_59 rfl ?_
  refine st_bipush (pc := 60) (v := (16 : Int32)) dX8_init_60 (by decide) ?_
  refine bd_newa (pc := 62) hq dX8_init_62 (fun h14 hq => ?_)
  refine bd_putr (pc := 64) hq dX8_init_64 fl_8_38_8 (Or.inr ⟨rfl, rfl⟩) rfl (Or.inr ⟨_, rfl⟩) (fun h15 hq => ?_)
  refine st_aload_n (pc := 67) dX8_init_67 rfl ?_
  refine st_bipush (pc := 68) (v := (16 : Int32)) dX8_init_68 (by decide) ?_
  refine bd_newa (pc := 70) hq dX8_init_70 (fun h16 hq => ?_)
  refine bd_putr (pc := 72) hq dX8_init_72 fl_8_41_8 (Or.inr ⟨rfl, rfl⟩) rfl (Or.inr ⟨_, rfl⟩) (fun h17 hq => ?_)
  refine st_aload_n (pc := 75) dX8_init_75 rfl ?_
  refine st_sipush (pc := 76) (v := (1536 : Int32)) dX8_init_76 (by decide) ?_
  refine bd_newa (pc := 79) hq dX8_init_79 (fun h18 hq => ?_)
  refine bd_putr (pc := 81) hq dX8_init_81 fl_8_44_8 (Or.inr ⟨rfl, rfl⟩) rfl (Or.inr ⟨_, rfl⟩) (fun h19 hq => ?_)
  refine st_aload_n (pc := 84) dX8_init_84 rfl ?_
  refine st_bipush (pc := 85) (v := (24 : Int32)) dX8_init_85 (by decide) ?_
  refine bd_newa (pc := 87) hq dX8_init_87 (fun h20 hq => ?_)
  refine bd_putr (pc := 89) hq dX8_init_89 fl_8_47_8 (Or.inr ⟨rfl, rfl⟩) rfl (Or.inr ⟨_, rfl⟩) (fun h21 hq => ?_)
  exact bd_vret (pc := 92) hq dX8_init_92 rfl
-- HoleWater$Looks.<init>()V
theorem dX1_init_0 : decode cX1_init 0 = .ok (.aload_n 0, 1) := by decide +kernel
theorem dX1_init_1 : decode cX1_init 1 = .ok (.invokespecial 3, 3) := by decide +kernel
theorem dX1_init_4 : decode cX1_init 4 = .ok (.aload_n 0, 1) := by decide +kernel
theorem dX1_init_5 : decode cX1_init 5 = .ok (.iconst 0, 1) := by decide +kernel
theorem dX1_init_6 : decode cX1_init 6 = .ok (.putfield 9, 3) := by decide +kernel
theorem dX1_init_9 : decode cX1_init 9 = .ok (.aload_n 0, 1) := by decide +kernel
theorem dX1_init_10 : decode cX1_init 10 = .ok (.iconst 0, 1) := by decide +kernel
theorem dX1_init_11 : decode cX1_init 11 = .ok (.putfield 15, 3) := by decide +kernel
theorem dX1_init_14 : decode cX1_init 14 = .ok (.aload_n 0, 1) := by decide +kernel
theorem dX1_init_15 : decode cX1_init 15 = .ok (.sipush 160, 3) := by decide +kernel
theorem dX1_init_18 : decode cX1_init 18 = .ok (.newarray .int, 2) := by decide +kernel
theorem dX1_init_20 : decode cX1_init 20 = .ok (.putfield 18, 3) := by decide +kernel
theorem dX1_init_23 : decode cX1_init 23 = .ok (.aload_n 0, 1) := by decide +kernel
theorem dX1_init_24 : decode cX1_init 24 = .ok (.sipush 480, 3) := by decide +kernel
theorem dX1_init_27 : decode cX1_init 27 = .ok (.newarray .int, 2) := by decide +kernel
theorem dX1_init_29 : decode cX1_init 29 = .ok (.putfield 22, 3) := by decide +kernel
theorem dX1_init_32 : decode cX1_init 32 = .ok (.aload_n 0, 1) := by decide +kernel
theorem dX1_init_33 : decode cX1_init 33 = .ok (.iconst 3, 1) := by decide +kernel
theorem dX1_init_34 : decode cX1_init 34 = .ok (.newarray .int, 2) := by decide +kernel
theorem dX1_init_36 : decode cX1_init 36 = .ok (.putfield 25, 3) := by decide +kernel
theorem dX1_init_39 : decode cX1_init 39 = .ok (.aload_n 0, 1) := by decide +kernel
theorem dX1_init_40 : decode cX1_init 40 = .ok (.bipush 16, 2) := by decide +kernel
theorem dX1_init_42 : decode cX1_init 42 = .ok (.newarray .int, 2) := by decide +kernel
theorem dX1_init_44 : decode cX1_init 44 = .ok (.putfield 28, 3) := by decide +kernel
theorem dX1_init_47 : decode cX1_init 47 = .ok (.aload_n 0, 1) := by decide +kernel
theorem dX1_init_48 : decode cX1_init 48 = .ok (.iconst 5, 1) := by decide +kernel
theorem dX1_init_49 : decode cX1_init 49 = .ok (.newarray .int, 2) := by decide +kernel
theorem dX1_init_51 : decode cX1_init 51 = .ok (.putfield 31, 3) := by decide +kernel
theorem dX1_init_54 : decode cX1_init 54 = .ok (.aload_n 0, 1) := by decide +kernel
theorem dX1_init_55 : decode cX1_init 55 = .ok (.bipush 32, 2) := by decide +kernel
theorem dX1_init_57 : decode cX1_init 57 = .ok (.newarray .int, 2) := by decide +kernel
theorem dX1_init_59 : decode cX1_init 59 = .ok (.putfield 34, 3) := by decide +kernel
theorem dX1_init_62 : decode cX1_init 62 = .ok (.return_, 1) := by decide +kernel
def D_X1_init (N : Nat) (h : mh_H) (l0 : Nat) : Option mh_H :=
  (pI h 1 l0 0 (0 : Int32)).bind fun h1 =>
  (pI h1 1 l0 1 (0 : Int32)).bind fun h2 =>
  (nA h2 0 (160 : Int32)).bind fun h3 =>
  (pR h3 1 l0 2 (mh_n h2)).bind fun h4 =>
  (nA h4 0 (480 : Int32)).bind fun h5 =>
  (pR h5 1 l0 3 (mh_n h4)).bind fun h6 =>
  (nA h6 0 (3 : Int32)).bind fun h7 =>
  (pR h7 1 l0 4 (mh_n h6)).bind fun h8 =>
  (nA h8 0 (16 : Int32)).bind fun h9 =>
  (pR h9 1 l0 5 (mh_n h8)).bind fun h10 =>
  (nA h10 0 (5 : Int32)).bind fun h11 =>
  (pR h11 1 l0 6 (mh_n h10)).bind fun h12 =>
  (nA h12 0 (32 : Int32)).bind fun h13 =>
  (pR h13 1 l0 7 (mh_n h12)).bind fun h14 =>
  some h14
set_option maxHeartbeats 4000000 in
set_option maxRecDepth 100000 in
theorem T_X1_init {P : mh_E → Prop} {N d : Nat} (hd : 1 ≤ d) {z : mh_H} {h : mh_H} {l0 : Nat} (hq : D_X1_init N h l0 = some z) : mh_go P d mX1_init 0 [some (.ref l0)] [] h none z := by
  unfold D_X1_init at hq
  refine st_aload_n (pc := 0) dX1_init_0 rfl ?_
  refine st_obj (pc := 1) dX1_init_1 wd_103 wd_oi wd_oc (Nat.le_trans (by decide) hd) (Nat.le_of_ble_eq_true rfl) ?_
  refine st_aload_n (pc := 4) dX1_init_4 rfl ?_
  refine st_iconst (pc := 5) (v := (0 : Int32)) dX1_init_5 rfl ?_
  refine bd_puti (pc := 6) hq dX1_init_6 fl_1_9_1 (Or.inl rfl) rfl (fun h1 hq => ?_)
  refine st_aload_n (pc := 9) dX1_init_9 rfl ?_
  refine st_iconst (pc := 10) (v := (0 : Int32)) dX1_init_10 rfl ?_
  refine bd_puti (pc := 11) hq dX1_init_11 fl_1_15_1 (Or.inl rfl) rfl (fun h2 hq => ?_)
  refine st_aload_n (pc := 14) dX1_init_14 rfl ?_
  refine st_sipush (pc := 15) (v := (160 : Int32)) dX1_init_15 (by decide) ?_
  refine bd_newa (pc := 18) hq dX1_init_18 (fun h3 hq => ?_)
  refine bd_putr (pc := 20) hq dX1_init_20 fl_1_18_1 (Or.inr ⟨rfl, rfl⟩) rfl (Or.inr ⟨_, rfl⟩) (fun h4 hq => ?_)
  refine st_aload_n (pc := 23) dX1_init_23 rfl ?_
  refine st_sipush (pc := 24) (v := (480 : Int32)) dX1_init_24 (by decide) ?_
  refine bd_newa (pc := 27) hq dX1_init_27 (fun h5 hq => ?_)
  refine bd_putr (pc := 29) hq dX1_init_29 fl_1_22_1 (Or.inr ⟨rfl, rfl⟩) rfl (Or.inr ⟨_, rfl⟩) (fun h6 hq => ?_)
  refine st_aload_n (pc := 32) dX1_init_32 rfl ?_
  refine st_iconst (pc := 33) (v := (3 : Int32)) dX1_init_33 rfl ?_
  refine bd_newa (pc := 34) hq dX1_init_34 (fun h7 hq => ?_)
  refine bd_putr (pc := 36) hq dX1_init_36 fl_1_25_1 (Or.inr ⟨rfl, rfl⟩) rfl (Or.inr ⟨_, rfl⟩) (fun h8 hq => ?_)
  refine st_aload_n (pc := 39) dX1_init_39 rfl ?_
  refine st_bipush (pc := 40) (v := (16 : Int32)) dX1_init_40 (by decide) ?_
  refine bd_newa (pc := 42) hq dX1_init_42 (fun h9 hq => ?_)
  refine bd_putr (pc := 44) hq dX1_init_44 fl_1_28_1 (Or.inr ⟨rfl, rfl⟩) rfl (Or.inr ⟨_, rfl⟩) (fun h10 hq => ?_)
  refine st_aload_n (pc := 47) dX1_init_47 rfl ?_
  refine st_iconst (pc := 48) (v := (5 : Int32)) dX1_init_48 rfl ?_
  refine bd_newa (pc := 49) hq dX1_init_49 (fun h11 hq => ?_)
  refine bd_putr (pc := 51) hq dX1_init_51 fl_1_31_1 (Or.inr ⟨rfl, rfl⟩) rfl (Or.inr ⟨_, rfl⟩) (fun h12 hq => ?_)
  refine st_aload_n (pc := 54) dX1_init_54 rfl ?_
  refine st_bipush (pc := 55) (v := (32 : Int32)) dX1_init_55 (by decide) ?_
  refine bd_newa (pc := 57) hq dX1_init_57 (fun h13 hq => ?_)
  refine bd_putr (pc := 59) hq dX1_init_59 fl_1_34_1 (Or.inr ⟨rfl, rfl⟩) rfl (Or.inr ⟨_, rfl⟩) (fun h14 hq => ?_)
  exact bd_vret (pc := 62) hq dX1_init_62 rfl
-- HoleWater$Way.<init>(IIII)V
theorem dX9_init_0 : decode cX9_init 0 = .ok (.aload_n 0, 1) := by decide +kernel
theorem dX9_init_1 : decode cX9_init 1 = .ok (.invokespecial 1, 3) := by decide +kernel
theorem dX9_init_4 : decode cX9_init 4 = .ok (.aload_n 0, 1) := by decide +kernel
theorem dX9_init_5 : decode cX9_init 5 = .ok (.iload_n 1, 1) := by decide +kernel
theorem dX9_init_6 : decode cX9_init 6 = .ok (.putfield 7, 3) := by decide +kernel
theorem dX9_init_9 : decode cX9_init 9 = .ok (.aload_n 0, 1) := by decide +kernel
theorem dX9_init_10 : decode cX9_init 10 = .ok (.iload_n 2, 1) := by decide +kernel
theorem dX9_init_11 : decode cX9_init 11 = .ok (.putfield 13, 3) := by decide +kernel
theorem dX9_init_14 : decode cX9_init 14 = .ok (.aload_n 0, 1) := by decide +kernel
theorem dX9_init_15 : decode cX9_init 15 = .ok (.iload_n 3, 1) := by decide +kernel
theorem dX9_init_16 : decode cX9_init 16 = .ok (.putfield 16, 3) := by decide +kernel
theorem dX9_init_19 : decode cX9_init 19 = .ok (.aload_n 0, 1) := by decide +kernel
theorem dX9_init_20 : decode cX9_init 20 = .ok (.iload 4, 2) := by decide +kernel
theorem dX9_init_22 : decode cX9_init 22 = .ok (.putfield 19, 3) := by decide +kernel
theorem dX9_init_25 : decode cX9_init 25 = .ok (.return_, 1) := by decide +kernel
def D_X9_init (N : Nat) (h : mh_H) (l0 : Nat) (l1 : Int32) (l2 : Int32) (l3 : Int32) (l4 : Int32) : Option mh_H :=
  (pW h l0 0 l1).bind fun h1 =>
  (pW h1 l0 1 l2).bind fun h2 =>
  (pW h2 l0 2 l3).bind fun h3 =>
  (pW h3 l0 3 l4).bind fun h4 =>
  some h4
set_option maxHeartbeats 4000000 in
set_option maxRecDepth 100000 in
theorem T_X9_init {P : mh_E → Prop} {N d : Nat} (hd : 1 ≤ d) {z : mh_H} {h : mh_H} {l0 : Nat} {l1 : Int32} {l2 : Int32} {l3 : Int32} {l4 : Int32} (hq : D_X9_init N h l0 l1 l2 l3 l4 = some z) : mh_go P d mX9_init 0 [some (.ref l0), some (.int l1), some (.int l2), some (.int l3), some (.int l4)] [] h none z := by
  unfold D_X9_init at hq
  refine st_aload_n (pc := 0) dX9_init_0 rfl ?_
  refine st_obj (pc := 1) dX9_init_1 wd_158 wd_oi wd_oc (Nat.le_trans (by decide) hd) (Nat.le_of_ble_eq_true rfl) ?_
  refine st_aload_n (pc := 4) dX9_init_4 rfl ?_
  refine st_iload_n (pc := 5) dX9_init_5 rfl ?_
  refine bd_putw (pc := 6) hq dX9_init_6 flw_9_7 (by decide) rfl rfl (fun h1 hq => ?_)
  refine st_aload_n (pc := 9) dX9_init_9 rfl ?_
  refine st_iload_n (pc := 10) dX9_init_10 rfl ?_
  refine bd_putw (pc := 11) hq dX9_init_11 flw_9_13 (by decide) rfl rfl (fun h2 hq => ?_)
  refine st_aload_n (pc := 14) dX9_init_14 rfl ?_
  refine st_iload_n (pc := 15) dX9_init_15 rfl ?_
  refine bd_putw (pc := 16) hq dX9_init_16 flw_9_16 (by decide) rfl rfl (fun h3 hq => ?_)
  refine st_aload_n (pc := 19) dX9_init_19 rfl ?_
  refine st_iload (pc := 20) dX9_init_20 rfl ?_
  refine bd_putw (pc := 22) hq dX9_init_22 flw_9_19 (by decide) rfl rfl (fun h4 hq => ?_)
  exact bd_vret (pc := 25) hq dX9_init_25 rfl
-- HoleWater$World.<init>()V
theorem dX10_init_140 : decode cX10_init 140 = .ok (.iload_n 2, 1) := by decide +kernel
theorem dX10_init_141 : decode cX10_init 141 = .ok (.bipush 24, 2) := by decide +kernel
theorem dX10_init_143 : decode cX10_init 143 = .ok (.if_icmp .ge 16, 3) := by decide +kernel
theorem dX10_init_159 : decode cX10_init 159 = .ok (.return_, 1) := by decide +kernel
theorem dX10_init_146 : decode cX10_init 146 = .ok (.aload_n 0, 1) := by decide +kernel
theorem dX10_init_147 : decode cX10_init 147 = .ok (.getfield 33, 3) := by decide +kernel
theorem dX10_init_150 : decode cX10_init 150 = .ok (.iload_n 2, 1) := by decide +kernel
theorem dX10_init_151 : decode cX10_init 151 = .ok (.aload_n 1, 1) := by decide +kernel
theorem dX10_init_152 : decode cX10_init 152 = .ok (.aastore, 1) := by decide +kernel
theorem dX10_init_153 : decode cX10_init 153 = .ok (.iinc 2 1, 3) := by decide +kernel
theorem dX10_init_156 : decode cX10_init 156 = .ok (.goto (-16), 3) := by decide +kernel
theorem dX10_init_0 : decode cX10_init 0 = .ok (.aload_n 0, 1) := by decide +kernel
theorem dX10_init_1 : decode cX10_init 1 = .ok (.invokespecial 3, 3) := by decide +kernel
theorem dX10_init_4 : decode cX10_init 4 = .ok (.aload_n 0, 1) := by decide +kernel
theorem dX10_init_5 : decode cX10_init 5 = .ok (.iconst 0, 1) := by decide +kernel
theorem dX10_init_6 : decode cX10_init 6 = .ok (.putfield 9, 3) := by decide +kernel
theorem dX10_init_9 : decode cX10_init 9 = .ok (.aload_n 0, 1) := by decide +kernel
theorem dX10_init_10 : decode cX10_init 10 = .ok (.iconst 0, 1) := by decide +kernel
theorem dX10_init_11 : decode cX10_init 11 = .ok (.putfield 15, 3) := by decide +kernel
theorem dX10_init_14 : decode cX10_init 14 = .ok (.aload_n 0, 1) := by decide +kernel
theorem dX10_init_15 : decode cX10_init 15 = .ok (.iconst 0, 1) := by decide +kernel
theorem dX10_init_16 : decode cX10_init 16 = .ok (.putfield 18, 3) := by decide +kernel
theorem dX10_init_19 : decode cX10_init 19 = .ok (.aload_n 0, 1) := by decide +kernel
theorem dX10_init_20 : decode cX10_init 20 = .ok (.bipush 16, 2) := by decide +kernel
theorem dX10_init_22 : decode cX10_init 22 = .ok (.newarray .int, 2) := by decide +kernel
theorem dX10_init_24 : decode cX10_init 24 = .ok (.putfield 21, 3) := by decide +kernel
theorem dX10_init_27 : decode cX10_init 27 = .ok (.aload_n 0, 1) := by decide +kernel
theorem dX10_init_28 : decode cX10_init 28 = .ok (.bipush 16, 2) := by decide +kernel
theorem dX10_init_30 : decode cX10_init 30 = .ok (.newarray .int, 2) := by decide +kernel
theorem dX10_init_32 : decode cX10_init 32 = .ok (.putfield 25, 3) := by decide +kernel
theorem dX10_init_35 : decode cX10_init 35 = .ok (.aload_n 0, 1) := by decide +kernel
theorem dX10_init_36 : decode cX10_init 36 = .ok (.bipush 16, 2) := by decide +kernel
theorem dX10_init_38 : decode cX10_init 38 = .ok (.newarray .int, 2) := by decide +kernel
theorem dX10_init_40 : decode cX10_init 40 = .ok (.putfield 28, 3) := by decide +kernel
theorem dX10_init_43 : decode cX10_init 43 = .ok (.aload_n 0, 1) := by decide +kernel
theorem dX10_init_44 : decode cX10_init 44 = .ok (.bipush 24, 2) := by decide +kernel
theorem dX10_init_46 : decode cX10_init 46 = .ok (.anewarray 31, 3) := by decide +kernel
theorem dX10_init_49 : decode cX10_init 49 = .ok (.putfield 33, 3) := by decide +kernel
theorem dX10_init_52 : decode cX10_init 52 = .ok (.aload_n 0, 1) := by decide +kernel
theorem dX10_init_53 : decode cX10_init 53 = .ok (.new 37, 3) := by decide +kernel
theorem dX10_init_56 : decode cX10_init 56 = .ok (.dup, 1) := by decide +kernel
theorem dX10_init_57 : decode cX10_init 57 = .ok (.invokespecial 39, 3) := by decide +kernel
theorem dX10_init_60 : decode cX10_init 60 = .ok (.putfield 40, 3) := by decide +kernel
theorem dX10_init_63 : decode cX10_init 63 = .ok (.aload_n 0, 1) := by decide +kernel
theorem dX10_init_64 : decode cX10_init 64 = .ok (.new 44, 3) := by decide +kernel
theorem dX10_init_67 : decode cX10_init 67 = .ok (.dup, 1) := by decide +kernel
theorem dX10_init_68 : decode cX10_init 68 = .ok (.invokespecial 46, 3) := by decide +kernel
theorem dX10_init_71 : decode cX10_init 71 = .ok (.putfield 47, 3) := by decide +kernel
theorem dX10_init_74 : decode cX10_init 74 = .ok (.aload_n 0, 1) := by decide +kernel
theorem dX10_init_75 : decode cX10_init 75 = .ok (.new 51, 3) := by decide +kernel
theorem dX10_init_78 : decode cX10_init 78 = .ok (.dup, 1) := by decide +kernel
theorem dX10_init_79 : decode cX10_init 79 = .ok (.bipush 60, 2) := by decide +kernel
theorem dX10_init_81 : decode cX10_init 81 = .ok (.invokespecial 53, 3) := by decide +kernel
theorem dX10_init_84 : decode cX10_init 84 = .ok (.putfield 56, 3) := by decide +kernel
theorem dX10_init_87 : decode cX10_init 87 = .ok (.aload_n 0, 1) := by decide +kernel
theorem dX10_init_88 : decode cX10_init 88 = .ok (.new 51, 3) := by decide +kernel
theorem dX10_init_91 : decode cX10_init 91 = .ok (.dup, 1) := by decide +kernel
theorem dX10_init_92 : decode cX10_init 92 = .ok (.bipush 61, 2) := by decide +kernel
theorem dX10_init_94 : decode cX10_init 94 = .ok (.invokespecial 53, 3) := by decide +kernel
theorem dX10_init_97 : decode cX10_init 97 = .ok (.putfield 60, 3) := by decide +kernel
theorem dX10_init_100 : decode cX10_init 100 = .ok (.aload_n 0, 1) := by decide +kernel
theorem dX10_init_101 : decode cX10_init 101 = .ok (.new 51, 3) := by decide +kernel
theorem dX10_init_104 : decode cX10_init 104 = .ok (.dup, 1) := by decide +kernel
theorem dX10_init_105 : decode cX10_init 105 = .ok (.bipush 61, 2) := by decide +kernel
theorem dX10_init_107 : decode cX10_init 107 = .ok (.invokespecial 53, 3) := by decide +kernel
theorem dX10_init_110 : decode cX10_init 110 = .ok (.putfield 63, 3) := by decide +kernel
theorem dX10_init_113 : decode cX10_init 113 = .ok (.aload_n 0, 1) := by decide +kernel
theorem dX10_init_114 : decode cX10_init 114 = .ok (.new 51, 3) := by decide +kernel
theorem dX10_init_117 : decode cX10_init 117 = .ok (.dup, 1) := by decide +kernel
theorem dX10_init_118 : decode cX10_init 118 = .ok (.bipush 24, 2) := by decide +kernel
theorem dX10_init_120 : decode cX10_init 120 = .ok (.invokespecial 53, 3) := by decide +kernel
theorem dX10_init_123 : decode cX10_init 123 = .ok (.putfield 66, 3) := by decide +kernel
theorem dX10_init_126 : decode cX10_init 126 = .ok (.new 31, 3) := by decide +kernel
theorem dX10_init_129 : decode cX10_init 129 = .ok (.dup, 1) := by decide +kernel
theorem dX10_init_130 : decode cX10_init 130 = .ok (.iconst 0, 1) := by decide +kernel
theorem dX10_init_131 : decode cX10_init 131 = .ok (.iconst 0, 1) := by decide +kernel
theorem dX10_init_132 : decode cX10_init 132 = .ok (.iconst 1, 1) := by decide +kernel
theorem dX10_init_133 : decode cX10_init 133 = .ok (.iconst 1, 1) := by decide +kernel
theorem dX10_init_134 : decode cX10_init 134 = .ok (.invokespecial 69, 3) := by decide +kernel
theorem dX10_init_137 : decode cX10_init 137 = .ok (.astore_n 1, 1) := by decide +kernel
theorem dX10_init_138 : decode cX10_init 138 = .ok (.iconst 0, 1) := by decide +kernel
theorem dX10_init_139 : decode cX10_init 139 = .ok (.istore_n 2, 1) := by decide +kernel
def D_X10_init_140 (N : Nat) : Nat → mh_H → Nat → Nat → Int32 → Option mh_H
  | 0, _, _, _, _ => none
  | F + 1, h, l0, l1, l2 =>
    if (24 : Int32) ≤ l2 then (some h)
    else ((gR h 10 l0 6).bind fun v1 =>
    (uR h v1 l2 l1).bind fun h2 =>
    (D_X10_init_140 N F) h2 l0 l1 (l2 + Int32.ofInt (1)))
set_option maxHeartbeats 4000000 in
set_option maxRecDepth 100000 in
theorem T_X10_init_140 {P : mh_E → Prop} {N d : Nat} (hd : 2 ≤ d) {z : mh_H} : ∀ (F : Nat) (h : mh_H) (l0 : Nat) (l1 : Nat) (l2 : Int32), D_X10_init_140 N F h l0 l1 l2 = some z → mh_go P d mX10_init 140 [some (.ref l0), some (.ref l1), some (.int l2)] [] h none z := by
  intro F
  induction F with
  | zero => intro h l0 l1 l2 hq; rw [D_X10_init_140] at hq; cases hq
  | succ F ih =>
    intro h l0 l1 l2 hq
    rw [D_X10_init_140] at hq
    refine st_iload_n (pc := 140) dX10_init_140 rfl ?_
    refine st_bipush (pc := 141) (v := (24 : Int32)) dX10_init_141 (by decide) ?_
    refine bd_icmp_ge (pc := 143) (tgt := 159) hq dX10_init_143 (by decide) (fun _ hq => ?_) (fun _ hq => ?_)
    ·
      exact bd_vret (pc := 159) hq dX10_init_159 rfl
    ·
      refine st_aload_n (pc := 146) dX10_init_146 rfl ?_
      refine bd_getr (pc := 147) hq dX10_init_147 fl_10_33_10 rfl (fun v1 hq => ?_)
      refine st_iload_n (pc := 150) dX10_init_150 rfl ?_
      refine st_aload_n (pc := 151) dX10_init_151 rfl ?_
      refine bd_aast (pc := 152) hq dX10_init_152 (fun h2 hq => ?_)
      refine st_iinc (pc := 153) (lv' := [some (.ref l0), some (.ref l1), some (.int (l2 + Int32.ofInt (1)))]) dX10_init_153 rfl rfl (by decide) rfl ?_
      refine st_goto (pc := 156) (tgt := 140) dX10_init_156 (by decide) ?_
      exact ih _ _ _ _ hq
def D_X10_init (N : Nat) (h : mh_H) (l0 : Nat) : Option mh_H :=
  (pI h 10 l0 0 (0 : Int32)).bind fun h1 =>
  (pI h1 10 l0 1 (0 : Int32)).bind fun h2 =>
  (pI h2 10 l0 2 (0 : Int32)).bind fun h3 =>
  (nA h3 0 (16 : Int32)).bind fun h4 =>
  (pR h4 10 l0 3 (mh_n h3)).bind fun h5 =>
  (nA h5 0 (16 : Int32)).bind fun h6 =>
  (pR h6 10 l0 4 (mh_n h5)).bind fun h7 =>
  (nA h7 0 (16 : Int32)).bind fun h8 =>
  (pR h8 10 l0 5 (mh_n h7)).bind fun h9 =>
  (nA h9 1 (24 : Int32)).bind fun h10 =>
  (pR h10 10 l0 6 (mh_n h9)).bind fun h11 =>
  (nO h11 8).bind fun h12 =>
  (D_X8_init N h12 (mh_n h11)).bind fun q13 =>
  (pR q13 10 l0 7 (mh_n h11)).bind fun h14 =>
  (nO h14 1).bind fun h15 =>
  (D_X1_init N h15 (mh_n h14)).bind fun q16 =>
  (pR q16 10 l0 8 (mh_n h14)).bind fun h17 =>
  (nO h17 6).bind fun h18 =>
  (D_X6_init N h18 (mh_n h17) (60 : Int32)).bind fun q19 =>
  (pR q19 10 l0 9 (mh_n h17)).bind fun h20 =>
  (nO h20 6).bind fun h21 =>
  (D_X6_init N h21 (mh_n h20) (61 : Int32)).bind fun q22 =>
  (pR q22 10 l0 10 (mh_n h20)).bind fun h23 =>
  (nO h23 6).bind fun h24 =>
  (D_X6_init N h24 (mh_n h23) (61 : Int32)).bind fun q25 =>
  (pR q25 10 l0 11 (mh_n h23)).bind fun h26 =>
  (nO h26 6).bind fun h27 =>
  (D_X6_init N h27 (mh_n h26) (24 : Int32)).bind fun q28 =>
  (pR q28 10 l0 12 (mh_n h26)).bind fun h29 =>
  (nO h29 9).bind fun h30 =>
  (D_X9_init N h30 (mh_n h29) (0 : Int32) (0 : Int32) (1 : Int32) (1 : Int32)).bind fun q31 =>
  D_X10_init_140 N N q31 l0 (mh_n h29) (0 : Int32)
set_option maxHeartbeats 4000000 in
set_option maxRecDepth 100000 in
theorem T_X10_init {P : mh_E → Prop} {N d : Nat} (hd : 2 ≤ d) {z : mh_H} {h : mh_H} {l0 : Nat} (hq : D_X10_init N h l0 = some z) : mh_go P d mX10_init 0 [some (.ref l0), none, none] [] h none z := by
  unfold D_X10_init at hq
  refine st_aload_n (pc := 0) dX10_init_0 rfl ?_
  refine st_obj (pc := 1) dX10_init_1 wd_36 wd_oi wd_oc (Nat.le_trans (by decide) hd) (Nat.le_of_ble_eq_true rfl) ?_
  refine st_aload_n (pc := 4) dX10_init_4 rfl ?_
  refine st_iconst (pc := 5) (v := (0 : Int32)) dX10_init_5 rfl ?_
  refine bd_puti (pc := 6) hq dX10_init_6 fl_10_9_10 (Or.inl rfl) rfl (fun h1 hq => ?_)
  refine st_aload_n (pc := 9) dX10_init_9 rfl ?_
  refine st_iconst (pc := 10) (v := (0 : Int32)) dX10_init_10 rfl ?_
  refine bd_puti (pc := 11) hq dX10_init_11 fl_10_15_10 (Or.inl rfl) rfl (fun h2 hq => ?_)
  refine st_aload_n (pc := 14) dX10_init_14 rfl ?_
  refine st_iconst (pc := 15) (v := (0 : Int32)) dX10_init_15 rfl ?_
  refine bd_puti (pc := 16) hq dX10_init_16 fl_10_18_10 (Or.inl rfl) rfl (fun h3 hq => ?_)
  refine st_aload_n (pc := 19) dX10_init_19 rfl ?_
  refine st_bipush (pc := 20) (v := (16 : Int32)) dX10_init_20 (by decide) ?_
  refine bd_newa (pc := 22) hq dX10_init_22 (fun h4 hq => ?_)
  refine bd_putr (pc := 24) hq dX10_init_24 fl_10_21_10 (Or.inr ⟨rfl, rfl⟩) rfl (Or.inr ⟨_, rfl⟩) (fun h5 hq => ?_)
  refine st_aload_n (pc := 27) dX10_init_27 rfl ?_
  refine st_bipush (pc := 28) (v := (16 : Int32)) dX10_init_28 (by decide) ?_
  refine bd_newa (pc := 30) hq dX10_init_30 (fun h6 hq => ?_)
  refine bd_putr (pc := 32) hq dX10_init_32 fl_10_25_10 (Or.inr ⟨rfl, rfl⟩) rfl (Or.inr ⟨_, rfl⟩) (fun h7 hq => ?_)
  refine st_aload_n (pc := 35) dX10_init_35 rfl ?_
  refine st_bipush (pc := 36) (v := (16 : Int32)) dX10_init_36 (by decide) ?_
  refine bd_newa (pc := 38) hq dX10_init_38 (fun h8 hq => ?_)
  refine bd_putr (pc := 40) hq dX10_init_40 fl_10_28_10 (Or.inr ⟨rfl, rfl⟩) rfl (Or.inr ⟨_, rfl⟩) (fun h9 hq => ?_)
  refine st_aload_n (pc := 43) dX10_init_43 rfl ?_
  refine st_bipush (pc := 44) (v := (24 : Int32)) dX10_init_44 (by decide) ?_
  refine bd_newq (pc := 46) hq dX10_init_46 wd_37 (fun h10 hq => ?_)
  refine bd_putr (pc := 49) hq dX10_init_49 fl_10_33_10 (Or.inr ⟨rfl, rfl⟩) rfl (Or.inr ⟨_, rfl⟩) (fun h11 hq => ?_)
  refine st_aload_n (pc := 52) dX10_init_52 rfl ?_
  refine bd_new (pc := 53) (ci := 8) hq dX10_init_53 (by decide) wd_39 wd_40 wd_3 (fun h12 hq => ?_)
  refine st_dup (pc := 56) dX10_init_56 rfl ?_
  obtain ⟨q13, e13, hq⟩ := mh_ob hq
  refine st_invIN (pc := 57) (b := mh_n h11) (vs := []) (rest := [.ref (mh_n h11), .ref l0]) (st2 := [.ref (mh_n h11), .ref l0]) dX10_init_57 okX8_init wn_41 wd_42 rfl pdX8_init rfl rfl rfl rfl (Nat.le_trans (by decide) hd) (Nat.le_of_ble_eq_true rfl) (T_X8_init (Nat.le_refl _) e13) rfl ?_
  refine bd_putr (pc := 60) hq dX10_init_60 fl_10_40_10 (Or.inr ⟨rfl, rfl⟩) rfl (Or.inl ⟨_, rfl⟩) (fun h14 hq => ?_)
  refine st_aload_n (pc := 63) dX10_init_63 rfl ?_
  refine bd_new (pc := 64) (ci := 1) hq dX10_init_64 (by decide) wd_98 wd_99 wd_4 (fun h15 hq => ?_)
  refine st_dup (pc := 67) dX10_init_67 rfl ?_
  obtain ⟨q16, e16, hq⟩ := mh_ob hq
  refine st_invIN (pc := 68) (b := mh_n h14) (vs := []) (rest := [.ref (mh_n h14), .ref l0]) (st2 := [.ref (mh_n h14), .ref l0]) dX10_init_68 okX1_init wn_100 wd_101 rfl pdX1_init rfl rfl rfl rfl (Nat.le_trans (by decide) hd) (Nat.le_of_ble_eq_true rfl) (T_X1_init (Nat.le_refl _) e16) rfl ?_
  refine bd_putr (pc := 71) hq dX10_init_71 fl_10_47_10 (Or.inr ⟨rfl, rfl⟩) rfl (Or.inl ⟨_, rfl⟩) (fun h17 hq => ?_)
  refine st_aload_n (pc := 74) dX10_init_74 rfl ?_
  refine bd_new (pc := 75) (ci := 6) hq dX10_init_75 (by decide) wd_134 wd_135 wd_5 (fun h18 hq => ?_)
  refine st_dup (pc := 78) dX10_init_78 rfl ?_
  refine st_bipush (pc := 79) (v := (60 : Int32)) dX10_init_79 (by decide) ?_
  obtain ⟨q19, e19, hq⟩ := mh_ob hq
  refine st_invI (pc := 81) (b := mh_n h17) (vs := [.int (60 : Int32)]) (rest := [.ref (mh_n h17), .ref l0]) (st2 := [.ref (mh_n h17), .ref l0]) dX10_init_81 okX6_init wd_136 wd_137 rfl pdX6_init rfl rfl rfl rfl (Nat.le_trans (by decide) hd) (Nat.le_of_ble_eq_true rfl) (T_X6_init (Nat.le_refl _) e19) rfl ?_
  refine bd_putr (pc := 84) hq dX10_init_84 fl_10_56_10 (Or.inr ⟨rfl, rfl⟩) rfl (Or.inl ⟨_, rfl⟩) (fun h20 hq => ?_)
  refine st_aload_n (pc := 87) dX10_init_87 rfl ?_
  refine bd_new (pc := 88) (ci := 6) hq dX10_init_88 (by decide) wd_134 wd_135 wd_5 (fun h21 hq => ?_)
  refine st_dup (pc := 91) dX10_init_91 rfl ?_
  refine st_bipush (pc := 92) (v := (61 : Int32)) dX10_init_92 (by decide) ?_
  obtain ⟨q22, e22, hq⟩ := mh_ob hq
  refine st_invI (pc := 94) (b := mh_n h20) (vs := [.int (61 : Int32)]) (rest := [.ref (mh_n h20), .ref l0]) (st2 := [.ref (mh_n h20), .ref l0]) dX10_init_94 okX6_init wd_136 wd_137 rfl pdX6_init rfl rfl rfl rfl (Nat.le_trans (by decide) hd) (Nat.le_of_ble_eq_true rfl) (T_X6_init (Nat.le_refl _) e22) rfl ?_
  refine bd_putr (pc := 97) hq dX10_init_97 fl_10_60_10 (Or.inr ⟨rfl, rfl⟩) rfl (Or.inl ⟨_, rfl⟩) (fun h23 hq => ?_)
  refine st_aload_n (pc := 100) dX10_init_100 rfl ?_
  refine bd_new (pc := 101) (ci := 6) hq dX10_init_101 (by decide) wd_134 wd_135 wd_5 (fun h24 hq => ?_)
  refine st_dup (pc := 104) dX10_init_104 rfl ?_
  refine st_bipush (pc := 105) (v := (61 : Int32)) dX10_init_105 (by decide) ?_
  obtain ⟨q25, e25, hq⟩ := mh_ob hq
  refine st_invI (pc := 107) (b := mh_n h23) (vs := [.int (61 : Int32)]) (rest := [.ref (mh_n h23), .ref l0]) (st2 := [.ref (mh_n h23), .ref l0]) dX10_init_107 okX6_init wd_136 wd_137 rfl pdX6_init rfl rfl rfl rfl (Nat.le_trans (by decide) hd) (Nat.le_of_ble_eq_true rfl) (T_X6_init (Nat.le_refl _) e25) rfl ?_
  refine bd_putr (pc := 110) hq dX10_init_110 fl_10_63_10 (Or.inr ⟨rfl, rfl⟩) rfl (Or.inl ⟨_, rfl⟩) (fun h26 hq => ?_)
  refine st_aload_n (pc := 113) dX10_init_113 rfl ?_
  refine bd_new (pc := 114) (ci := 6) hq dX10_init_114 (by decide) wd_134 wd_135 wd_5 (fun h27 hq => ?_)
  refine st_dup (pc := 117) dX10_init_117 rfl ?_
  refine st_bipush (pc := 118) (v := (24 : Int32)) dX10_init_118 (by decide) ?_
  obtain ⟨q28, e28, hq⟩ := mh_ob hq
  refine st_invI (pc := 120) (b := mh_n h26) (vs := [.int (24 : Int32)]) (rest := [.ref (mh_n h26), .ref l0]) (st2 := [.ref (mh_n h26), .ref l0]) dX10_init_120 okX6_init wd_136 wd_137 rfl pdX6_init rfl rfl rfl rfl (Nat.le_trans (by decide) hd) (Nat.le_of_ble_eq_true rfl) (T_X6_init (Nat.le_refl _) e28) rfl ?_
  refine bd_putr (pc := 123) hq dX10_init_123 fl_10_66_10 (Or.inr ⟨rfl, rfl⟩) rfl (Or.inl ⟨_, rfl⟩) (fun h29 hq => ?_)
  refine bd_new (pc := 126) (ci := 9) hq dX10_init_126 (by decide) wd_37 wd_154 wd_7 (fun h30 hq => ?_)
  refine st_dup (pc := 129) dX10_init_129 rfl ?_
  refine st_iconst (pc := 130) (v := (0 : Int32)) dX10_init_130 rfl ?_
  refine st_iconst (pc := 131) (v := (0 : Int32)) dX10_init_131 rfl ?_
  refine st_iconst (pc := 132) (v := (1 : Int32)) dX10_init_132 rfl ?_
  refine st_iconst (pc := 133) (v := (1 : Int32)) dX10_init_133 rfl ?_
  obtain ⟨q31, e31, hq⟩ := mh_ob hq
  refine st_invI (pc := 134) (b := mh_n h29) (vs := [.int (0 : Int32), .int (0 : Int32), .int (1 : Int32), .int (1 : Int32)]) (rest := [.ref (mh_n h29)]) (st2 := [.ref (mh_n h29)]) dX10_init_134 okX9_init wd_155 wd_156 rfl pdX9_init rfl rfl rfl rfl (Nat.le_trans (by decide) hd) (Nat.le_of_ble_eq_true rfl) (T_X9_init (Nat.le_refl _) e31) rfl ?_
  refine st_astore_n (pc := 137) (lv' := [some (.ref l0), some (.ref (mh_n h29)), none]) dX10_init_137 rfl (by decide) rfl ?_
  refine st_iconst (pc := 138) (v := (0 : Int32)) dX10_init_138 rfl ?_
  refine st_istore_n (pc := 139) (lv' := [some (.ref l0), some (.ref (mh_n h29)), some (.int (0 : Int32))]) dX10_init_139 rfl (by decide) rfl ?_
  exact T_X10_init_140 hd N _ _ _ _ hq
-- HoleWater.<init>()V
theorem dX11_init_0 : decode cX11_init 0 = .ok (.aload_n 0, 1) := by decide +kernel
theorem dX11_init_1 : decode cX11_init 1 = .ok (.invokespecial 3, 3) := by decide +kernel
theorem dX11_init_4 : decode cX11_init 4 = .ok (.aload_n 0, 1) := by decide +kernel
theorem dX11_init_5 : decode cX11_init 5 = .ok (.new 9, 3) := by decide +kernel
theorem dX11_init_8 : decode cX11_init 8 = .ok (.dup, 1) := by decide +kernel
theorem dX11_init_9 : decode cX11_init 9 = .ok (.invokespecial 11, 3) := by decide +kernel
theorem dX11_init_12 : decode cX11_init 12 = .ok (.putfield 12, 3) := by decide +kernel
theorem dX11_init_15 : decode cX11_init 15 = .ok (.aload_n 0, 1) := by decide +kernel
theorem dX11_init_16 : decode cX11_init 16 = .ok (.new 9, 3) := by decide +kernel
theorem dX11_init_19 : decode cX11_init 19 = .ok (.dup, 1) := by decide +kernel
theorem dX11_init_20 : decode cX11_init 20 = .ok (.invokespecial 11, 3) := by decide +kernel
theorem dX11_init_23 : decode cX11_init 23 = .ok (.putfield 16, 3) := by decide +kernel
theorem dX11_init_26 : decode cX11_init 26 = .ok (.aload_n 0, 1) := by decide +kernel
theorem dX11_init_27 : decode cX11_init 27 = .ok (.new 19, 3) := by decide +kernel
theorem dX11_init_30 : decode cX11_init 30 = .ok (.dup, 1) := by decide +kernel
theorem dX11_init_31 : decode cX11_init 31 = .ok (.invokespecial 21, 3) := by decide +kernel
theorem dX11_init_34 : decode cX11_init 34 = .ok (.putfield 22, 3) := by decide +kernel
theorem dX11_init_37 : decode cX11_init 37 = .ok (.aload_n 0, 1) := by decide +kernel
theorem dX11_init_38 : decode cX11_init 38 = .ok (.new 26, 3) := by decide +kernel
theorem dX11_init_41 : decode cX11_init 41 = .ok (.dup, 1) := by decide +kernel
theorem dX11_init_42 : decode cX11_init 42 = .ok (.invokespecial 28, 3) := by decide +kernel
theorem dX11_init_45 : decode cX11_init 45 = .ok (.putfield 29, 3) := by decide +kernel
theorem dX11_init_48 : decode cX11_init 48 = .ok (.aload_n 0, 1) := by decide +kernel
theorem dX11_init_49 : decode cX11_init 49 = .ok (.new 33, 3) := by decide +kernel
theorem dX11_init_52 : decode cX11_init 52 = .ok (.dup, 1) := by decide +kernel
theorem dX11_init_53 : decode cX11_init 53 = .ok (.bipush 30, 2) := by decide +kernel
theorem dX11_init_55 : decode cX11_init 55 = .ok (.invokespecial 35, 3) := by decide +kernel
theorem dX11_init_58 : decode cX11_init 58 = .ok (.putfield 38, 3) := by decide +kernel
theorem dX11_init_61 : decode cX11_init 61 = .ok (.aload_n 0, 1) := by decide +kernel
theorem dX11_init_62 : decode cX11_init 62 = .ok (.bipush 7, 2) := by decide +kernel
theorem dX11_init_64 : decode cX11_init 64 = .ok (.newarray .int, 2) := by decide +kernel
theorem dX11_init_66 : decode cX11_init 66 = .ok (.putfield 42, 3) := by decide +kernel
theorem dX11_init_69 : decode cX11_init 69 = .ok (.aload_n 0, 1) := by decide +kernel
theorem dX11_init_70 : decode cX11_init 70 = .ok (.iconst 4, 1) := by decide +kernel
theorem dX11_init_71 : decode cX11_init 71 = .ok (.newarray .int, 2) := by decide +kernel
theorem dX11_init_73 : decode cX11_init 73 = .ok (.putfield 46, 3) := by decide +kernel
theorem dX11_init_76 : decode cX11_init 76 = .ok (.aload_n 0, 1) := by decide +kernel
theorem dX11_init_77 : decode cX11_init 77 = .ok (.iconst 4, 1) := by decide +kernel
theorem dX11_init_78 : decode cX11_init 78 = .ok (.newarray .int, 2) := by decide +kernel
theorem dX11_init_80 : decode cX11_init 80 = .ok (.putfield 49, 3) := by decide +kernel
theorem dX11_init_83 : decode cX11_init 83 = .ok (.aload_n 0, 1) := by decide +kernel
theorem dX11_init_84 : decode cX11_init 84 = .ok (.bipush 96, 2) := by decide +kernel
theorem dX11_init_86 : decode cX11_init 86 = .ok (.newarray .int, 2) := by decide +kernel
theorem dX11_init_88 : decode cX11_init 88 = .ok (.putfield 52, 3) := by decide +kernel
theorem dX11_init_91 : decode cX11_init 91 = .ok (.aload_n 0, 1) := by decide +kernel
theorem dX11_init_92 : decode cX11_init 92 = .ok (.bipush 16, 2) := by decide +kernel
theorem dX11_init_94 : decode cX11_init 94 = .ok (.newarray .int, 2) := by decide +kernel
theorem dX11_init_96 : decode cX11_init 96 = .ok (.putfield 55, 3) := by decide +kernel
theorem dX11_init_99 : decode cX11_init 99 = .ok (.aload_n 0, 1) := by decide +kernel
theorem dX11_init_100 : decode cX11_init 100 = .ok (.iconst 0, 1) := by decide +kernel
theorem dX11_init_101 : decode cX11_init 101 = .ok (.putfield 58, 3) := by decide +kernel
theorem dX11_init_104 : decode cX11_init 104 = .ok (.return_, 1) := by decide +kernel
def D_X11_init (N : Nat) (h : mh_H) (l0 : Nat) : Option mh_H :=
  (nO h 10).bind fun h1 =>
  (D_X10_init N h1 (mh_n h)).bind fun q2 =>
  (pR q2 11 l0 0 (mh_n h)).bind fun h3 =>
  (nO h3 10).bind fun h4 =>
  (D_X10_init N h4 (mh_n h3)).bind fun q5 =>
  (pR q5 11 l0 1 (mh_n h3)).bind fun h6 =>
  (nO h6 8).bind fun h7 =>
  (D_X8_init N h7 (mh_n h6)).bind fun q8 =>
  (pR q8 11 l0 2 (mh_n h6)).bind fun h9 =>
  (nO h9 5).bind fun h10 =>
  (D_X5_init N h10 (mh_n h9)).bind fun q11 =>
  (pR q11 11 l0 3 (mh_n h9)).bind fun h12 =>
  (nO h12 6).bind fun h13 =>
  (D_X6_init N h13 (mh_n h12) (30 : Int32)).bind fun q14 =>
  (pR q14 11 l0 4 (mh_n h12)).bind fun h15 =>
  (nA h15 0 (7 : Int32)).bind fun h16 =>
  (pR h16 11 l0 5 (mh_n h15)).bind fun h17 =>
  (nA h17 0 (4 : Int32)).bind fun h18 =>
  (pR h18 11 l0 6 (mh_n h17)).bind fun h19 =>
  (nA h19 0 (4 : Int32)).bind fun h20 =>
  (pR h20 11 l0 7 (mh_n h19)).bind fun h21 =>
  (nA h21 0 (96 : Int32)).bind fun h22 =>
  (pR h22 11 l0 8 (mh_n h21)).bind fun h23 =>
  (nA h23 0 (16 : Int32)).bind fun h24 =>
  (pR h24 11 l0 9 (mh_n h23)).bind fun h25 =>
  (pI h25 11 l0 10 (0 : Int32)).bind fun h26 =>
  some h26
set_option maxHeartbeats 4000000 in
set_option maxRecDepth 100000 in
theorem T_X11_init {P : mh_E → Prop} {N d : Nat} (hd : 3 ≤ d) {z : mh_H} {h : mh_H} {l0 : Nat} (hq : D_X11_init N h l0 = some z) : mh_go P d mX11_init 0 [some (.ref l0)] [] h none z := by
  unfold D_X11_init at hq
  refine st_aload_n (pc := 0) dX11_init_0 rfl ?_
  refine st_obj (pc := 1) dX11_init_1 wd_28 wd_oi wd_oc (Nat.le_trans (by decide) hd) (Nat.le_of_ble_eq_true rfl) ?_
  refine st_aload_n (pc := 4) dX11_init_4 rfl ?_
  refine bd_new (pc := 5) (ci := 10) hq dX11_init_5 (by decide) wd_31 wd_32 wd_2 (fun h1 hq => ?_)
  refine st_dup (pc := 8) dX11_init_8 rfl ?_
  obtain ⟨q2, e2, hq⟩ := mh_ob hq
  refine st_invI (pc := 9) (b := mh_n h) (vs := []) (rest := [.ref (mh_n h), .ref l0]) (st2 := [.ref (mh_n h), .ref l0]) dX11_init_9 okX10_init wd_33 wd_34 rfl pdX10_init rfl rfl rfl rfl (Nat.le_trans (by decide) hd) (Nat.le_of_ble_eq_true rfl) (T_X10_init (Nat.le_refl _) e2) rfl ?_
  refine bd_putr (pc := 12) hq dX11_init_12 fl_11_12_11 (Or.inr ⟨rfl, rfl⟩) rfl (Or.inl ⟨_, rfl⟩) (fun h3 hq => ?_)
  refine st_aload_n (pc := 15) dX11_init_15 rfl ?_
  refine bd_new (pc := 16) (ci := 10) hq dX11_init_16 (by decide) wd_31 wd_32 wd_2 (fun h4 hq => ?_)
  refine st_dup (pc := 19) dX11_init_19 rfl ?_
  obtain ⟨q5, e5, hq⟩ := mh_ob hq
  refine st_invI (pc := 20) (b := mh_n h3) (vs := []) (rest := [.ref (mh_n h3), .ref l0]) (st2 := [.ref (mh_n h3), .ref l0]) dX11_init_20 okX10_init wd_33 wd_34 rfl pdX10_init rfl rfl rfl rfl (Nat.le_trans (by decide) hd) (Nat.le_of_ble_eq_true rfl) (T_X10_init (Nat.le_refl _) e5) rfl ?_
  refine bd_putr (pc := 23) hq dX11_init_23 fl_11_16_11 (Or.inr ⟨rfl, rfl⟩) rfl (Or.inl ⟨_, rfl⟩) (fun h6 hq => ?_)
  refine st_aload_n (pc := 26) dX11_init_26 rfl ?_
  refine bd_new (pc := 27) (ci := 8) hq dX11_init_27 (by decide) wd_241 wd_40 wd_3 (fun h7 hq => ?_)
  refine st_dup (pc := 30) dX11_init_30 rfl ?_
  obtain ⟨q8, e8, hq⟩ := mh_ob hq
  refine st_invIN (pc := 31) (b := mh_n h6) (vs := []) (rest := [.ref (mh_n h6), .ref l0]) (st2 := [.ref (mh_n h6), .ref l0]) dX11_init_31 okX8_init wn_242 wd_42 rfl pdX8_init rfl rfl rfl rfl (Nat.le_trans (by decide) hd) (Nat.le_of_ble_eq_true rfl) (T_X8_init (Nat.le_refl _) e8) rfl ?_
  refine bd_putr (pc := 34) hq dX11_init_34 fl_11_22_11 (Or.inr ⟨rfl, rfl⟩) rfl (Or.inl ⟨_, rfl⟩) (fun h9 hq => ?_)
  refine st_aload_n (pc := 37) dX11_init_37 rfl ?_
  refine bd_new (pc := 38) (ci := 5) hq dX11_init_38 (by decide) wd_243 wd_244 wd_8 (fun h10 hq => ?_)
  refine st_dup (pc := 41) dX11_init_41 rfl ?_
  obtain ⟨q11, e11, hq⟩ := mh_ob hq
  refine st_invIN (pc := 42) (b := mh_n h9) (vs := []) (rest := [.ref (mh_n h9), .ref l0]) (st2 := [.ref (mh_n h9), .ref l0]) dX11_init_42 okX5_init wn_245 wd_246 rfl pdX5_init rfl rfl rfl rfl (Nat.le_trans (by decide) hd) (Nat.le_of_ble_eq_true rfl) (T_X5_init (Nat.le_refl _) e11) rfl ?_
  refine bd_putr (pc := 45) hq dX11_init_45 fl_11_29_11 (Or.inr ⟨rfl, rfl⟩) rfl (Or.inl ⟨_, rfl⟩) (fun h12 hq => ?_)
  refine st_aload_n (pc := 48) dX11_init_48 rfl ?_
  refine bd_new (pc := 49) (ci := 6) hq dX11_init_49 (by decide) wd_283 wd_135 wd_5 (fun h13 hq => ?_)
  refine st_dup (pc := 52) dX11_init_52 rfl ?_
  refine st_bipush (pc := 53) (v := (30 : Int32)) dX11_init_53 (by decide) ?_
  obtain ⟨q14, e14, hq⟩ := mh_ob hq
  refine st_invI (pc := 55) (b := mh_n h12) (vs := [.int (30 : Int32)]) (rest := [.ref (mh_n h12), .ref l0]) (st2 := [.ref (mh_n h12), .ref l0]) dX11_init_55 okX6_init wd_284 wd_137 rfl pdX6_init rfl rfl rfl rfl (Nat.le_trans (by decide) hd) (Nat.le_of_ble_eq_true rfl) (T_X6_init (Nat.le_refl _) e14) rfl ?_
  refine bd_putr (pc := 58) hq dX11_init_58 fl_11_38_11 (Or.inr ⟨rfl, rfl⟩) rfl (Or.inl ⟨_, rfl⟩) (fun h15 hq => ?_)
  refine st_aload_n (pc := 61) dX11_init_61 rfl ?_
  refine st_bipush (pc := 62) (v := (7 : Int32)) dX11_init_62 (by decide) ?_
  refine bd_newa (pc := 64) hq dX11_init_64 (fun h16 hq => ?_)
  refine bd_putr (pc := 66) hq dX11_init_66 fl_11_42_11 (Or.inr ⟨rfl, rfl⟩) rfl (Or.inr ⟨_, rfl⟩) (fun h17 hq => ?_)
  refine st_aload_n (pc := 69) dX11_init_69 rfl ?_
  refine st_iconst (pc := 70) (v := (4 : Int32)) dX11_init_70 rfl ?_
  refine bd_newa (pc := 71) hq dX11_init_71 (fun h18 hq => ?_)
  refine bd_putr (pc := 73) hq dX11_init_73 fl_11_46_11 (Or.inr ⟨rfl, rfl⟩) rfl (Or.inr ⟨_, rfl⟩) (fun h19 hq => ?_)
  refine st_aload_n (pc := 76) dX11_init_76 rfl ?_
  refine st_iconst (pc := 77) (v := (4 : Int32)) dX11_init_77 rfl ?_
  refine bd_newa (pc := 78) hq dX11_init_78 (fun h20 hq => ?_)
  refine bd_putr (pc := 80) hq dX11_init_80 fl_11_49_11 (Or.inr ⟨rfl, rfl⟩) rfl (Or.inr ⟨_, rfl⟩) (fun h21 hq => ?_)
  refine st_aload_n (pc := 83) dX11_init_83 rfl ?_
  refine st_bipush (pc := 84) (v := (96 : Int32)) dX11_init_84 (by decide) ?_
  refine bd_newa (pc := 86) hq dX11_init_86 (fun h22 hq => ?_)
  refine bd_putr (pc := 88) hq dX11_init_88 fl_11_52_11 (Or.inr ⟨rfl, rfl⟩) rfl (Or.inr ⟨_, rfl⟩) (fun h23 hq => ?_)
  refine st_aload_n (pc := 91) dX11_init_91 rfl ?_
  refine st_bipush (pc := 92) (v := (16 : Int32)) dX11_init_92 (by decide) ?_
  refine bd_newa (pc := 94) hq dX11_init_94 (fun h24 hq => ?_)
  refine bd_putr (pc := 96) hq dX11_init_96 fl_11_55_11 (Or.inr ⟨rfl, rfl⟩) rfl (Or.inr ⟨_, rfl⟩) (fun h25 hq => ?_)
  refine st_aload_n (pc := 99) dX11_init_99 rfl ?_
  refine st_iconst (pc := 100) (v := (0 : Int32)) dX11_init_100 rfl ?_
  refine bd_puti (pc := 101) hq dX11_init_101 fl_11_58_11 (Or.inl rfl) rfl (fun h26 hq => ?_)
  exact bd_vret (pc := 104) hq dX11_init_104 rfl
-- HoleWater.within(III)Z
theorem dX11_within_0 : decode cX11_within 0 = .ok (.iload_n 0, 1) := by decide +kernel
theorem dX11_within_1 : decode cX11_within 1 = .ok (.iload_n 1, 1) := by decide +kernel
theorem dX11_within_2 : decode cX11_within 2 = .ok (.if_icmp .lt 12, 3) := by decide +kernel
theorem dX11_within_14 : decode cX11_within 14 = .ok (.iconst 0, 1) := by decide +kernel
theorem dX11_within_15 : decode cX11_within 15 = .ok (.ireturn, 1) := by decide +kernel
theorem dX11_within_5 : decode cX11_within 5 = .ok (.iload_n 0, 1) := by decide +kernel
theorem dX11_within_6 : decode cX11_within 6 = .ok (.iload_n 2, 1) := by decide +kernel
theorem dX11_within_7 : decode cX11_within 7 = .ok (.if_icmp .gt 7, 3) := by decide +kernel
theorem dX11_within_10 : decode cX11_within 10 = .ok (.iconst 1, 1) := by decide +kernel
theorem dX11_within_11 : decode cX11_within 11 = .ok (.goto 4, 3) := by decide +kernel
def D_X11_within (N : Nat) (h : mh_H) (l0 : Int32) (l1 : Int32) (l2 : Int32) : Option (Int32 × mh_H) :=
  if l0 < l1 then (zB (0 : Int32) h)
  else (if l2 < l0 then (zB (0 : Int32) h)
  else (zB (1 : Int32) h))
set_option maxHeartbeats 4000000 in
set_option maxRecDepth 100000 in
theorem T_X11_within {P : mh_E → Prop} {N d : Nat} (hd : 1 ≤ d) {z : (Int32 × mh_H)} {h : mh_H} {l0 : Int32} {l1 : Int32} {l2 : Int32} (hq : D_X11_within N h l0 l1 l2 = some z) : mh_go P d mX11_within 0 [some (.int l0), some (.int l1), some (.int l2)] [] h (some (.int z.1)) z.2 := by
  unfold D_X11_within at hq
  refine st_iload_n (pc := 0) dX11_within_0 rfl ?_
  refine st_iload_n (pc := 1) dX11_within_1 rfl ?_
  refine bd_icmp_lt (pc := 2) (tgt := 14) hq dX11_within_2 (by decide) (fun _ hq => ?_) (fun _ hq => ?_)
  ·
    refine st_iconst (pc := 14) (v := (0 : Int32)) dX11_within_14 rfl ?_
    exact bd_zret (pc := 15) hq dX11_within_15 rfl
  ·
    refine st_iload_n (pc := 5) dX11_within_5 rfl ?_
    refine st_iload_n (pc := 6) dX11_within_6 rfl ?_
    refine bd_icmp_gt (pc := 7) (tgt := 14) hq dX11_within_7 (by decide) (fun _ hq => ?_) (fun _ hq => ?_)
    ·
      refine st_iconst (pc := 14) (v := (0 : Int32)) dX11_within_14 rfl ?_
      exact bd_zret (pc := 15) hq dX11_within_15 rfl
    ·
      refine st_iconst (pc := 10) (v := (1 : Int32)) dX11_within_10 rfl ?_
      refine st_goto (pc := 11) (tgt := 15) dX11_within_11 (by decide) ?_
      exact bd_zret (pc := 15) hq dX11_within_15 rfl
-- HoleWater.error(I)I
theorem dX11_error_0 : decode cX11_error 0 = .ok (.iload_n 1, 1) := by decide +kernel
theorem dX11_error_1 : decode cX11_error 1 = .ok (.iconst 1, 1) := by decide +kernel
theorem dX11_error_2 : decode cX11_error 2 = .ok (.bipush 6, 2) := by decide +kernel
theorem dX11_error_4 : decode cX11_error 4 = .ok (.invokestatic 62, 3) := by decide +kernel
theorem dX11_error_7 : decode cX11_error 7 = .ok (.ifCond .eq 13, 3) := by decide +kernel
theorem dX11_error_20 : decode cX11_error 20 = .ok (.ldc_w 376, 3) := by decide +kernel
theorem dX11_error_23 : decode cX11_error 23 = .ok (.iload_n 1, 1) := by decide +kernel
theorem dX11_error_24 : decode cX11_error 24 = .ok (.isub, 1) := by decide +kernel
theorem dX11_error_25 : decode cX11_error 25 = .ok (.ireturn, 1) := by decide +kernel
theorem dX11_error_10 : decode cX11_error 10 = .ok (.aload_n 0, 1) := by decide +kernel
theorem dX11_error_11 : decode cX11_error 11 = .ok (.getfield 42, 3) := by decide +kernel
theorem dX11_error_14 : decode cX11_error 14 = .ok (.iload_n 1, 1) := by decide +kernel
theorem dX11_error_15 : decode cX11_error 15 = .ok (.dup2, 1) := by decide +kernel
theorem dX11_error_16 : decode cX11_error 16 = .ok (.iaload, 1) := by decide +kernel
theorem dX11_error_17 : decode cX11_error 17 = .ok (.iconst 1, 1) := by decide +kernel
theorem dX11_error_18 : decode cX11_error 18 = .ok (.iadd, 1) := by decide +kernel
theorem dX11_error_19 : decode cX11_error 19 = .ok (.iastore, 1) := by decide +kernel
def D_X11_error (N : Nat) (h : mh_H) (l0 : Nat) (l1 : Int32) : Option (Int32 × mh_H) :=
  (D_X11_within N h l1 (1 : Int32) (6 : Int32)).bind fun q1 =>
  if q1.1 = 0 then (some ((-1000000 : Int32) - l1, q1.2))
  else ((gR q1.2 11 l0 5).bind fun v2 =>
  (aI q1.2 v2 l1).bind fun v3 =>
  (uI q1.2 v2 l1 (v3 + (1 : Int32))).bind fun h4 =>
  some ((-1000000 : Int32) - l1, h4))
set_option maxHeartbeats 4000000 in
set_option maxRecDepth 100000 in
theorem T_X11_error {P : mh_E → Prop} {N d : Nat} (hd : 2 ≤ d) {z : (Int32 × mh_H)} {h : mh_H} {l0 : Nat} {l1 : Int32} (hq : D_X11_error N h l0 l1 = some z) : mh_go P d mX11_error 0 [some (.ref l0), some (.int l1)] [] h (some (.int z.1)) z.2 := by
  unfold D_X11_error at hq
  refine st_iload_n (pc := 0) dX11_error_0 rfl ?_
  refine st_iconst (pc := 1) (v := (1 : Int32)) dX11_error_1 rfl ?_
  refine st_bipush (pc := 2) (v := (6 : Int32)) dX11_error_2 (by decide) ?_
  obtain ⟨q1, e1, hq⟩ := mh_ob hq
  refine st_invS (pc := 4) (Y := mX11_within) (vs := [.int l1, .int (1 : Int32), .int (6 : Int32)]) (rest := []) (st2 := [.int q1.1]) dX11_error_4 okX11_within wd_323 wd_324 pdX11_within rfl rfl rfl rfl (Nat.le_trans (by decide) hd) (Nat.le_of_ble_eq_true rfl) (T_X11_within (Nat.le_refl _) e1) rfl ?_
  refine bd_if_eq (pc := 7) (tgt := 20) hq dX11_error_7 (by decide) (fun _ hq => ?_) (fun _ hq => ?_)
  ·
    refine st_ldcw (pc := 20) (v := (-1000000 : Int32)) dX11_error_20 wd_330 ?_
    refine st_iload_n (pc := 23) dX11_error_23 rfl ?_
    refine st_isub (pc := 24) dX11_error_24 ?_
    exact bd_iret (pc := 25) hq dX11_error_25 rfl
  ·
    refine st_aload_n (pc := 10) dX11_error_10 rfl ?_
    refine bd_getr (pc := 11) hq dX11_error_11 fl_11_42_11 rfl (fun v2 hq => ?_)
    refine st_iload_n (pc := 14) dX11_error_14 rfl ?_
    refine st_dup2 (pc := 15) dX11_error_15 rfl rfl ?_
    refine bd_iald (pc := 16) hq dX11_error_16 (fun v3 hq => ?_)
    refine st_iconst (pc := 17) (v := (1 : Int32)) dX11_error_17 rfl ?_
    refine st_iadd (pc := 18) dX11_error_18 ?_
    refine bd_iast (pc := 19) hq dX11_error_19 (fun h4 hq => ?_)
    refine st_ldcw (pc := 20) (v := (-1000000 : Int32)) dX11_error_20 wd_330 ?_
    refine st_iload_n (pc := 23) dX11_error_23 rfl ?_
    refine st_isub (pc := 24) dX11_error_24 ?_
    exact bd_iret (pc := 25) hq dX11_error_25 rfl
-- HoleWater$World.addJoint(III)I
theorem dX10_addJoint_0 : decode cX10_addJoint 0 = .ok (.aload_n 0, 1) := by decide +kernel
theorem dX10_addJoint_1 : decode cX10_addJoint 1 = .ok (.getfield 9, 3) := by decide +kernel
theorem dX10_addJoint_4 : decode cX10_addJoint 4 = .ok (.bipush 16, 2) := by decide +kernel
theorem dX10_addJoint_6 : decode cX10_addJoint 6 = .ok (.if_icmp .lt 5, 3) := by decide +kernel
theorem dX10_addJoint_11 : decode cX10_addJoint 11 = .ok (.aload_n 0, 1) := by decide +kernel
theorem dX10_addJoint_12 : decode cX10_addJoint 12 = .ok (.getfield 21, 3) := by decide +kernel
theorem dX10_addJoint_15 : decode cX10_addJoint 15 = .ok (.aload_n 0, 1) := by decide +kernel
theorem dX10_addJoint_16 : decode cX10_addJoint 16 = .ok (.getfield 9, 3) := by decide +kernel
theorem dX10_addJoint_19 : decode cX10_addJoint 19 = .ok (.iload_n 1, 1) := by decide +kernel
theorem dX10_addJoint_20 : decode cX10_addJoint 20 = .ok (.iastore, 1) := by decide +kernel
theorem dX10_addJoint_21 : decode cX10_addJoint 21 = .ok (.aload_n 0, 1) := by decide +kernel
theorem dX10_addJoint_22 : decode cX10_addJoint 22 = .ok (.getfield 25, 3) := by decide +kernel
theorem dX10_addJoint_25 : decode cX10_addJoint 25 = .ok (.aload_n 0, 1) := by decide +kernel
theorem dX10_addJoint_26 : decode cX10_addJoint 26 = .ok (.getfield 9, 3) := by decide +kernel
theorem dX10_addJoint_29 : decode cX10_addJoint 29 = .ok (.iload_n 2, 1) := by decide +kernel
theorem dX10_addJoint_30 : decode cX10_addJoint 30 = .ok (.iastore, 1) := by decide +kernel
theorem dX10_addJoint_31 : decode cX10_addJoint 31 = .ok (.aload_n 0, 1) := by decide +kernel
theorem dX10_addJoint_32 : decode cX10_addJoint 32 = .ok (.getfield 28, 3) := by decide +kernel
theorem dX10_addJoint_35 : decode cX10_addJoint 35 = .ok (.aload_n 0, 1) := by decide +kernel
theorem dX10_addJoint_36 : decode cX10_addJoint 36 = .ok (.getfield 9, 3) := by decide +kernel
theorem dX10_addJoint_39 : decode cX10_addJoint 39 = .ok (.iload_n 3, 1) := by decide +kernel
theorem dX10_addJoint_40 : decode cX10_addJoint 40 = .ok (.iastore, 1) := by decide +kernel
theorem dX10_addJoint_41 : decode cX10_addJoint 41 = .ok (.aload_n 0, 1) := by decide +kernel
theorem dX10_addJoint_42 : decode cX10_addJoint 42 = .ok (.dup, 1) := by decide +kernel
theorem dX10_addJoint_43 : decode cX10_addJoint 43 = .ok (.getfield 9, 3) := by decide +kernel
theorem dX10_addJoint_46 : decode cX10_addJoint 46 = .ok (.iconst 1, 1) := by decide +kernel
theorem dX10_addJoint_47 : decode cX10_addJoint 47 = .ok (.iadd, 1) := by decide +kernel
theorem dX10_addJoint_48 : decode cX10_addJoint 48 = .ok (.putfield 9, 3) := by decide +kernel
theorem dX10_addJoint_51 : decode cX10_addJoint 51 = .ok (.aload_n 0, 1) := by decide +kernel
theorem dX10_addJoint_52 : decode cX10_addJoint 52 = .ok (.getfield 9, 3) := by decide +kernel
theorem dX10_addJoint_55 : decode cX10_addJoint 55 = .ok (.iconst 1, 1) := by decide +kernel
theorem dX10_addJoint_56 : decode cX10_addJoint 56 = .ok (.isub, 1) := by decide +kernel
theorem dX10_addJoint_57 : decode cX10_addJoint 57 = .ok (.ireturn, 1) := by decide +kernel
theorem dX10_addJoint_9 : decode cX10_addJoint 9 = .ok (.iconst (-1), 1) := by decide +kernel
theorem dX10_addJoint_10 : decode cX10_addJoint 10 = .ok (.ireturn, 1) := by decide +kernel
def D_X10_addJoint (N : Nat) (h : mh_H) (l0 : Nat) (l1 : Int32) (l2 : Int32) (l3 : Int32) : Option (Int32 × mh_H) :=
  (gI h 10 l0 0).bind fun v1 =>
  if v1 < (16 : Int32) then ((gR h 10 l0 3).bind fun v2 =>
  (gI h 10 l0 0).bind fun v3 =>
  (uI h v2 v3 l1).bind fun h4 =>
  (gR h4 10 l0 4).bind fun v5 =>
  (gI h4 10 l0 0).bind fun v6 =>
  (uI h4 v5 v6 l2).bind fun h7 =>
  (gR h7 10 l0 5).bind fun v8 =>
  (gI h7 10 l0 0).bind fun v9 =>
  (uI h7 v8 v9 l3).bind fun h10 =>
  (gI h10 10 l0 0).bind fun v11 =>
  (pI h10 10 l0 0 (v11 + (1 : Int32))).bind fun h12 =>
  (gI h12 10 l0 0).bind fun v13 =>
  some (v13 - (1 : Int32), h12))
  else (some ((-1 : Int32), h))
set_option maxHeartbeats 4000000 in
set_option maxRecDepth 100000 in
theorem T_X10_addJoint {P : mh_E → Prop} {N d : Nat} (hd : 1 ≤ d) {z : (Int32 × mh_H)} {h : mh_H} {l0 : Nat} {l1 : Int32} {l2 : Int32} {l3 : Int32} (hq : D_X10_addJoint N h l0 l1 l2 l3 = some z) : mh_go P d mX10_addJoint 0 [some (.ref l0), some (.int l1), some (.int l2), some (.int l3)] [] h (some (.int z.1)) z.2 := by
  unfold D_X10_addJoint at hq
  refine st_aload_n (pc := 0) dX10_addJoint_0 rfl ?_
  refine bd_geti (pc := 1) hq dX10_addJoint_1 fl_10_9_10 rfl (fun v1 hq => ?_)
  refine st_bipush (pc := 4) (v := (16 : Int32)) dX10_addJoint_4 (by decide) ?_
  refine bd_icmp_lt (pc := 6) (tgt := 11) hq dX10_addJoint_6 (by decide) (fun _ hq => ?_) (fun _ hq => ?_)
  ·
    refine st_aload_n (pc := 11) dX10_addJoint_11 rfl ?_
    refine bd_getr (pc := 12) hq dX10_addJoint_12 fl_10_21_10 rfl (fun v2 hq => ?_)
    refine st_aload_n (pc := 15) dX10_addJoint_15 rfl ?_
    refine bd_geti (pc := 16) hq dX10_addJoint_16 fl_10_9_10 rfl (fun v3 hq => ?_)
    refine st_iload_n (pc := 19) dX10_addJoint_19 rfl ?_
    refine bd_iast (pc := 20) hq dX10_addJoint_20 (fun h4 hq => ?_)
    refine st_aload_n (pc := 21) dX10_addJoint_21 rfl ?_
    refine bd_getr (pc := 22) hq dX10_addJoint_22 fl_10_25_10 rfl (fun v5 hq => ?_)
    refine st_aload_n (pc := 25) dX10_addJoint_25 rfl ?_
    refine bd_geti (pc := 26) hq dX10_addJoint_26 fl_10_9_10 rfl (fun v6 hq => ?_)
    refine st_iload_n (pc := 29) dX10_addJoint_29 rfl ?_
    refine bd_iast (pc := 30) hq dX10_addJoint_30 (fun h7 hq => ?_)
    refine st_aload_n (pc := 31) dX10_addJoint_31 rfl ?_
    refine bd_getr (pc := 32) hq dX10_addJoint_32 fl_10_28_10 rfl (fun v8 hq => ?_)
    refine st_aload_n (pc := 35) dX10_addJoint_35 rfl ?_
    refine bd_geti (pc := 36) hq dX10_addJoint_36 fl_10_9_10 rfl (fun v9 hq => ?_)
    refine st_iload_n (pc := 39) dX10_addJoint_39 rfl ?_
    refine bd_iast (pc := 40) hq dX10_addJoint_40 (fun h10 hq => ?_)
    refine st_aload_n (pc := 41) dX10_addJoint_41 rfl ?_
    refine st_dup (pc := 42) dX10_addJoint_42 rfl ?_
    refine bd_geti (pc := 43) hq dX10_addJoint_43 fl_10_9_10 rfl (fun v11 hq => ?_)
    refine st_iconst (pc := 46) (v := (1 : Int32)) dX10_addJoint_46 rfl ?_
    refine st_iadd (pc := 47) dX10_addJoint_47 ?_
    refine bd_puti (pc := 48) hq dX10_addJoint_48 fl_10_9_10 (Or.inl rfl) rfl (fun h12 hq => ?_)
    refine st_aload_n (pc := 51) dX10_addJoint_51 rfl ?_
    refine bd_geti (pc := 52) hq dX10_addJoint_52 fl_10_9_10 rfl (fun v13 hq => ?_)
    refine st_iconst (pc := 55) (v := (1 : Int32)) dX10_addJoint_55 rfl ?_
    refine st_isub (pc := 56) dX10_addJoint_56 ?_
    exact bd_iret (pc := 57) hq dX10_addJoint_57 rfl
  ·
    refine st_iconst (pc := 9) (v := (-1 : Int32)) dX10_addJoint_9 rfl ?_
    exact bd_iret (pc := 10) hq dX10_addJoint_10 rfl
-- HoleWater.joint(III)I
theorem dX11_joint_29 : decode cX11_joint 29 = .ok (.aload_n 0, 1) := by decide +kernel
theorem dX11_joint_30 : decode cX11_joint 30 = .ok (.iconst 1, 1) := by decide +kernel
theorem dX11_joint_31 : decode cX11_joint 31 = .ok (.invokevirtual 66, 3) := by decide +kernel
theorem dX11_joint_34 : decode cX11_joint 34 = .ok (.ireturn, 1) := by decide +kernel
theorem dX11_joint_0 : decode cX11_joint 0 = .ok (.iload_n 1, 1) := by decide +kernel
theorem dX11_joint_1 : decode cX11_joint 1 = .ok (.iconst 0, 1) := by decide +kernel
theorem dX11_joint_2 : decode cX11_joint 2 = .ok (.iconst 3, 1) := by decide +kernel
theorem dX11_joint_3 : decode cX11_joint 3 = .ok (.invokestatic 62, 3) := by decide +kernel
theorem dX11_joint_6 : decode cX11_joint 6 = .ok (.ifCond .eq 23, 3) := by decide +kernel
theorem dX11_joint_9 : decode cX11_joint 9 = .ok (.iload_n 2, 1) := by decide +kernel
theorem dX11_joint_10 : decode cX11_joint 10 = .ok (.iconst 0, 1) := by decide +kernel
theorem dX11_joint_11 : decode cX11_joint 11 = .ok (.bipush 99, 2) := by decide +kernel
theorem dX11_joint_13 : decode cX11_joint 13 = .ok (.invokestatic 62, 3) := by decide +kernel
theorem dX11_joint_16 : decode cX11_joint 16 = .ok (.ifCond .eq 13, 3) := by decide +kernel
theorem dX11_joint_19 : decode cX11_joint 19 = .ok (.iload_n 3, 1) := by decide +kernel
theorem dX11_joint_20 : decode cX11_joint 20 = .ok (.iconst 0, 1) := by decide +kernel
theorem dX11_joint_21 : decode cX11_joint 21 = .ok (.bipush 99, 2) := by decide +kernel
theorem dX11_joint_23 : decode cX11_joint 23 = .ok (.invokestatic 62, 3) := by decide +kernel
theorem dX11_joint_26 : decode cX11_joint 26 = .ok (.ifCond .ne 9, 3) := by decide +kernel
theorem dX11_joint_35 : decode cX11_joint 35 = .ok (.aload_n 0, 1) := by decide +kernel
theorem dX11_joint_36 : decode cX11_joint 36 = .ok (.getfield 12, 3) := by decide +kernel
theorem dX11_joint_39 : decode cX11_joint 39 = .ok (.getfield 70, 3) := by decide +kernel
theorem dX11_joint_42 : decode cX11_joint 42 = .ok (.bipush 16, 2) := by decide +kernel
theorem dX11_joint_44 : decode cX11_joint 44 = .ok (.if_icmp .lt 9, 3) := by decide +kernel
theorem dX11_joint_53 : decode cX11_joint 53 = .ok (.aload_n 0, 1) := by decide +kernel
theorem dX11_joint_54 : decode cX11_joint 54 = .ok (.getfield 12, 3) := by decide +kernel
theorem dX11_joint_57 : decode cX11_joint 57 = .ok (.iload_n 1, 1) := by decide +kernel
theorem dX11_joint_58 : decode cX11_joint 58 = .ok (.iload_n 2, 1) := by decide +kernel
theorem dX11_joint_59 : decode cX11_joint 59 = .ok (.iload_n 3, 1) := by decide +kernel
theorem dX11_joint_60 : decode cX11_joint 60 = .ok (.invokevirtual 73, 3) := by decide +kernel
theorem dX11_joint_63 : decode cX11_joint 63 = .ok (.ireturn, 1) := by decide +kernel
theorem dX11_joint_47 : decode cX11_joint 47 = .ok (.aload_n 0, 1) := by decide +kernel
theorem dX11_joint_48 : decode cX11_joint 48 = .ok (.iconst 4, 1) := by decide +kernel
theorem dX11_joint_49 : decode cX11_joint 49 = .ok (.invokevirtual 66, 3) := by decide +kernel
theorem dX11_joint_52 : decode cX11_joint 52 = .ok (.ireturn, 1) := by decide +kernel
def D_X11_joint_29 (N : Nat) (h : mh_H) (l0 : Nat) : Option (Int32 × mh_H) :=
  kO h 11 l0 <|
  (D_X11_error N h l0 (1 : Int32)).bind fun q1 =>
  some (q1.1, q1.2)
set_option maxHeartbeats 4000000 in
set_option maxRecDepth 100000 in
theorem T_X11_joint_29 {P : mh_E → Prop} {N d : Nat} (hd : 3 ≤ d) {z : (Int32 × mh_H)} {h : mh_H} {l0 : Nat} (hq : D_X11_joint_29 N h l0 = some z) : mh_go P d mX11_joint 29 [some (.ref l0), none, none, none] [] h (some (.int z.1)) z.2 := by
  unfold D_X11_joint_29 at hq
  refine st_aload_n (pc := 29) dX11_joint_29 rfl ?_
  refine st_iconst (pc := 30) (v := (1 : Int32)) dX11_joint_30 rfl ?_
  obtain ⟨⟨hbq1, hkq1⟩, hq⟩ := mh_oi hq
  obtain ⟨q1, e1, hq⟩ := mh_ob hq
  refine st_invV (pc := 31) (ci := 11) (vs := [.int (1 : Int32)]) (rest := []) (st2 := [.int q1.1]) dX11_joint_31 okX11_error (by decide) hkq1 hbq1 wd_326 wd_328 wp_0 pdX11_error rfl rfl rfl rfl (Nat.le_trans (by decide) hd) (Nat.le_of_ble_eq_true rfl) (T_X11_error (Nat.le_refl _) e1) rfl ?_
  exact bd_iret (pc := 34) hq dX11_joint_34 rfl
def D_X11_joint (N : Nat) (h : mh_H) (l0 : Nat) (l1 : Int32) (l2 : Int32) (l3 : Int32) : Option (Int32 × mh_H) :=
  (D_X11_within N h l1 (0 : Int32) (3 : Int32)).bind fun q1 =>
  if q1.1 = 0 then (D_X11_joint_29 N q1.2 l0)
  else ((D_X11_within N q1.2 l2 (0 : Int32) (99 : Int32)).bind fun q2 =>
  if q2.1 = 0 then (D_X11_joint_29 N q2.2 l0)
  else ((D_X11_within N q2.2 l3 (0 : Int32) (99 : Int32)).bind fun q3 =>
  if q3.1 = 0 then (D_X11_joint_29 N q3.2 l0)
  else ((gR q3.2 11 l0 0).bind fun v4 =>
  (gI q3.2 10 v4 0).bind fun v5 =>
  if v5 < (16 : Int32) then ((gR q3.2 11 l0 0).bind fun v6 =>
  kO q3.2 10 v6 <|
  (D_X10_addJoint N q3.2 v6 l1 l2 l3).bind fun q7 =>
  some (q7.1, q7.2))
  else (kO q3.2 11 l0 <|
  (D_X11_error N q3.2 l0 (4 : Int32)).bind fun q6 =>
  some (q6.1, q6.2)))))
set_option maxHeartbeats 4000000 in
set_option maxRecDepth 100000 in
theorem T_X11_joint {P : mh_E → Prop} {N d : Nat} (hd : 3 ≤ d) {z : (Int32 × mh_H)} {h : mh_H} {l0 : Nat} {l1 : Int32} {l2 : Int32} {l3 : Int32} (hq : D_X11_joint N h l0 l1 l2 l3 = some z) : mh_go P d mX11_joint 0 [some (.ref l0), some (.int l1), some (.int l2), some (.int l3)] [] h (some (.int z.1)) z.2 := by
  unfold D_X11_joint at hq
  refine st_iload_n (pc := 0) dX11_joint_0 rfl ?_
  refine st_iconst (pc := 1) (v := (0 : Int32)) dX11_joint_1 rfl ?_
  refine st_iconst (pc := 2) (v := (3 : Int32)) dX11_joint_2 rfl ?_
  obtain ⟨q1, e1, hq⟩ := mh_ob hq
  refine st_invS (pc := 3) (Y := mX11_within) (vs := [.int l1, .int (0 : Int32), .int (3 : Int32)]) (rest := []) (st2 := [.int q1.1]) dX11_joint_3 okX11_within wd_323 wd_324 pdX11_within rfl rfl rfl rfl (Nat.le_trans (by decide) hd) (Nat.le_of_ble_eq_true rfl) (T_X11_within (Nat.le_refl _) e1) rfl ?_
  refine bd_if_eq (pc := 6) (tgt := 29) hq dX11_joint_6 (by decide) (fun _ hq => ?_) (fun _ hq => ?_)
  ·
    refine st_lesS (lv' := [some (.ref l0), none, none, none]) ⟨Or.inr rfl, Or.inl rfl, Or.inl rfl, Or.inl rfl, trivial⟩ ?_
    exact T_X11_joint_29 hd hq
  ·
    refine st_iload_n (pc := 9) dX11_joint_9 rfl ?_
    refine st_iconst (pc := 10) (v := (0 : Int32)) dX11_joint_10 rfl ?_
    refine st_bipush (pc := 11) (v := (99 : Int32)) dX11_joint_11 (by decide) ?_
    obtain ⟨q2, e2, hq⟩ := mh_ob hq
    refine st_invS (pc := 13) (Y := mX11_within) (vs := [.int l2, .int (0 : Int32), .int (99 : Int32)]) (rest := []) (st2 := [.int q2.1]) dX11_joint_13 okX11_within wd_323 wd_324 pdX11_within rfl rfl rfl rfl (Nat.le_trans (by decide) hd) (Nat.le_of_ble_eq_true rfl) (T_X11_within (Nat.le_refl _) e2) rfl ?_
    refine bd_if_eq (pc := 16) (tgt := 29) hq dX11_joint_16 (by decide) (fun _ hq => ?_) (fun _ hq => ?_)
    ·
      refine st_lesS (lv' := [some (.ref l0), none, none, none]) ⟨Or.inr rfl, Or.inl rfl, Or.inl rfl, Or.inl rfl, trivial⟩ ?_
      exact T_X11_joint_29 hd hq
    ·
      refine st_iload_n (pc := 19) dX11_joint_19 rfl ?_
      refine st_iconst (pc := 20) (v := (0 : Int32)) dX11_joint_20 rfl ?_
      refine st_bipush (pc := 21) (v := (99 : Int32)) dX11_joint_21 (by decide) ?_
      obtain ⟨q3, e3, hq⟩ := mh_ob hq
      refine st_invS (pc := 23) (Y := mX11_within) (vs := [.int l3, .int (0 : Int32), .int (99 : Int32)]) (rest := []) (st2 := [.int q3.1]) dX11_joint_23 okX11_within wd_323 wd_324 pdX11_within rfl rfl rfl rfl (Nat.le_trans (by decide) hd) (Nat.le_of_ble_eq_true rfl) (T_X11_within (Nat.le_refl _) e3) rfl ?_
      refine bd_if_ne (pc := 26) (tgt := 35) hq dX11_joint_26 (by decide) (fun _ hq => ?_) (fun _ hq => ?_)
      ·
        refine st_lesS (lv' := [some (.ref l0), none, none, none]) ⟨Or.inr rfl, Or.inl rfl, Or.inl rfl, Or.inl rfl, trivial⟩ ?_
        exact T_X11_joint_29 hd hq
      ·
        refine st_aload_n (pc := 35) dX11_joint_35 rfl ?_
        refine bd_getr (pc := 36) hq dX11_joint_36 fl_11_12_11 rfl (fun v4 hq => ?_)
        refine bd_geti (pc := 39) hq dX11_joint_39 fl_11_70_10 rfl (fun v5 hq => ?_)
        refine st_bipush (pc := 42) (v := (16 : Int32)) dX11_joint_42 (by decide) ?_
        refine bd_icmp_lt (pc := 44) (tgt := 53) hq dX11_joint_44 (by decide) (fun _ hq => ?_) (fun _ hq => ?_)
        ·
          refine st_aload_n (pc := 53) dX11_joint_53 rfl ?_
          refine bd_getr (pc := 54) hq dX11_joint_54 fl_11_12_11 rfl (fun v6 hq => ?_)
          refine st_iload_n (pc := 57) dX11_joint_57 rfl ?_
          refine st_iload_n (pc := 58) dX11_joint_58 rfl ?_
          refine st_iload_n (pc := 59) dX11_joint_59 rfl ?_
          obtain ⟨⟨hbq7, hkq7⟩, hq⟩ := mh_oi hq
          obtain ⟨q7, e7, hq⟩ := mh_ob hq
          refine st_invV (pc := 60) (ci := 10) (vs := [.int l1, .int l2, .int l3]) (rest := []) (st2 := [.int q7.1]) dX11_joint_60 okX10_addJoint (by decide) hkq7 hbq7 wd_331 wd_332 wd_333 pdX10_addJoint rfl rfl rfl rfl (Nat.le_trans (by decide) hd) (Nat.le_of_ble_eq_true rfl) (T_X10_addJoint (Nat.le_refl _) e7) rfl ?_
          exact bd_iret (pc := 63) hq dX11_joint_63 rfl
        ·
          refine st_aload_n (pc := 47) dX11_joint_47 rfl ?_
          refine st_iconst (pc := 48) (v := (4 : Int32)) dX11_joint_48 rfl ?_
          obtain ⟨⟨hbq6, hkq6⟩, hq⟩ := mh_oi hq
          obtain ⟨q6, e6, hq⟩ := mh_ob hq
          refine st_invV (pc := 49) (ci := 11) (vs := [.int (4 : Int32)]) (rest := []) (st2 := [.int q6.1]) dX11_joint_49 okX11_error (by decide) hkq6 hbq6 wd_326 wd_328 wp_0 pdX11_error rfl rfl rfl rfl (Nat.le_trans (by decide) hd) (Nat.le_of_ble_eq_true rfl) (T_X11_error (Nat.le_refl _) e6) rfl ?_
          exact bd_iret (pc := 52) hq dX11_joint_52 rfl
-- HoleWater.bit(II)I
theorem dX11_bit_0 : decode cX11_bit 0 = .ok (.iload_n 0, 1) := by decide +kernel
theorem dX11_bit_1 : decode cX11_bit 1 = .ok (.iload_n 1, 1) := by decide +kernel
theorem dX11_bit_2 : decode cX11_bit 2 = .ok (.ishr, 1) := by decide +kernel
theorem dX11_bit_3 : decode cX11_bit 3 = .ok (.iconst 1, 1) := by decide +kernel
theorem dX11_bit_4 : decode cX11_bit 4 = .ok (.iand, 1) := by decide +kernel
theorem dX11_bit_5 : decode cX11_bit 5 = .ok (.ireturn, 1) := by decide +kernel
def D_X11_bit (N : Nat) (h : mh_H) (l0 : Int32) (l1 : Int32) : Option (Int32 × mh_H) :=
  some ((l0 >>> (l1 &&& 31)) &&& (1 : Int32), h)
set_option maxHeartbeats 4000000 in
set_option maxRecDepth 100000 in
theorem T_X11_bit {P : mh_E → Prop} {N d : Nat} (hd : 1 ≤ d) {z : (Int32 × mh_H)} {h : mh_H} {l0 : Int32} {l1 : Int32} (hq : D_X11_bit N h l0 l1 = some z) : mh_go P d mX11_bit 0 [some (.int l0), some (.int l1)] [] h (some (.int z.1)) z.2 := by
  unfold D_X11_bit at hq
  refine st_iload_n (pc := 0) dX11_bit_0 rfl ?_
  refine st_iload_n (pc := 1) dX11_bit_1 rfl ?_
  refine st_ishr (pc := 2) dX11_bit_2 ?_
  refine st_iconst (pc := 3) (v := (1 : Int32)) dX11_bit_3 rfl ?_
  refine st_iand (pc := 4) dX11_bit_4 ?_
  exact bd_iret (pc := 5) hq dX11_bit_5 rfl
-- HoleWater$World.isJoint(I)Z
theorem dX10_isJoint_0 : decode cX10_isJoint 0 = .ok (.iload_n 1, 1) := by decide +kernel
theorem dX10_isJoint_1 : decode cX10_isJoint 1 = .ok (.ifCond .lt 15, 3) := by decide +kernel
theorem dX10_isJoint_16 : decode cX10_isJoint 16 = .ok (.iconst 0, 1) := by decide +kernel
theorem dX10_isJoint_17 : decode cX10_isJoint 17 = .ok (.ireturn, 1) := by decide +kernel
theorem dX10_isJoint_4 : decode cX10_isJoint 4 = .ok (.iload_n 1, 1) := by decide +kernel
theorem dX10_isJoint_5 : decode cX10_isJoint 5 = .ok (.aload_n 0, 1) := by decide +kernel
theorem dX10_isJoint_6 : decode cX10_isJoint 6 = .ok (.getfield 9, 3) := by decide +kernel
theorem dX10_isJoint_9 : decode cX10_isJoint 9 = .ok (.if_icmp .ge 7, 3) := by decide +kernel
theorem dX10_isJoint_12 : decode cX10_isJoint 12 = .ok (.iconst 1, 1) := by decide +kernel
theorem dX10_isJoint_13 : decode cX10_isJoint 13 = .ok (.goto 4, 3) := by decide +kernel
def D_X10_isJoint (N : Nat) (h : mh_H) (l0 : Nat) (l1 : Int32) : Option (Int32 × mh_H) :=
  if l1 < 0 then (zB (0 : Int32) h)
  else ((gI h 10 l0 0).bind fun v1 =>
  if v1 ≤ l1 then (zB (0 : Int32) h)
  else (zB (1 : Int32) h))
set_option maxHeartbeats 4000000 in
set_option maxRecDepth 100000 in
theorem T_X10_isJoint {P : mh_E → Prop} {N d : Nat} (hd : 1 ≤ d) {z : (Int32 × mh_H)} {h : mh_H} {l0 : Nat} {l1 : Int32} (hq : D_X10_isJoint N h l0 l1 = some z) : mh_go P d mX10_isJoint 0 [some (.ref l0), some (.int l1)] [] h (some (.int z.1)) z.2 := by
  unfold D_X10_isJoint at hq
  refine st_iload_n (pc := 0) dX10_isJoint_0 rfl ?_
  refine bd_if_lt (pc := 1) (tgt := 16) hq dX10_isJoint_1 (by decide) (fun _ hq => ?_) (fun _ hq => ?_)
  ·
    refine st_iconst (pc := 16) (v := (0 : Int32)) dX10_isJoint_16 rfl ?_
    exact bd_zret (pc := 17) hq dX10_isJoint_17 rfl
  ·
    refine st_iload_n (pc := 4) dX10_isJoint_4 rfl ?_
    refine st_aload_n (pc := 5) dX10_isJoint_5 rfl ?_
    refine bd_geti (pc := 6) hq dX10_isJoint_6 fl_10_9_10 rfl (fun v1 hq => ?_)
    refine bd_icmp_ge (pc := 9) (tgt := 16) hq dX10_isJoint_9 (by decide) (fun _ hq => ?_) (fun _ hq => ?_)
    ·
      refine st_iconst (pc := 16) (v := (0 : Int32)) dX10_isJoint_16 rfl ?_
      exact bd_zret (pc := 17) hq dX10_isJoint_17 rfl
    ·
      refine st_iconst (pc := 12) (v := (1 : Int32)) dX10_isJoint_12 rfl ?_
      refine st_goto (pc := 13) (tgt := 17) dX10_isJoint_13 (by decide) ?_
      exact bd_zret (pc := 17) hq dX10_isJoint_17 rfl
-- HoleWater.jointIs(II)I
theorem dX11_jointIs_0 : decode cX11_jointIs 0 = .ok (.aload_n 0, 1) := by decide +kernel
theorem dX11_jointIs_1 : decode cX11_jointIs 1 = .ok (.getfield 12, 3) := by decide +kernel
theorem dX11_jointIs_4 : decode cX11_jointIs 4 = .ok (.iload_n 1, 1) := by decide +kernel
theorem dX11_jointIs_5 : decode cX11_jointIs 5 = .ok (.invokevirtual 77, 3) := by decide +kernel
theorem dX11_jointIs_8 : decode cX11_jointIs 8 = .ok (.ifCond .ne 9, 3) := by decide +kernel
theorem dX11_jointIs_11 : decode cX11_jointIs 11 = .ok (.aload_n 0, 1) := by decide +kernel
theorem dX11_jointIs_12 : decode cX11_jointIs 12 = .ok (.iconst 1, 1) := by decide +kernel
theorem dX11_jointIs_13 : decode cX11_jointIs 13 = .ok (.invokevirtual 66, 3) := by decide +kernel
theorem dX11_jointIs_16 : decode cX11_jointIs 16 = .ok (.ireturn, 1) := by decide +kernel
theorem dX11_jointIs_17 : decode cX11_jointIs 17 = .ok (.iload_n 2, 1) := by decide +kernel
theorem dX11_jointIs_18 : decode cX11_jointIs 18 = .ok (.tableswitch 125 0 6 #[42, 52, 62, 72, 87, 100, 113], 42) := by decide +kernel
theorem dX11_jointIs_60 : decode cX11_jointIs 60 = .ok (.aload_n 0, 1) := by decide +kernel
theorem dX11_jointIs_61 : decode cX11_jointIs 61 = .ok (.getfield 12, 3) := by decide +kernel
theorem dX11_jointIs_64 : decode cX11_jointIs 64 = .ok (.getfield 81, 3) := by decide +kernel
theorem dX11_jointIs_67 : decode cX11_jointIs 67 = .ok (.iload_n 1, 1) := by decide +kernel
theorem dX11_jointIs_68 : decode cX11_jointIs 68 = .ok (.iaload, 1) := by decide +kernel
theorem dX11_jointIs_69 : decode cX11_jointIs 69 = .ok (.ireturn, 1) := by decide +kernel
theorem dX11_jointIs_70 : decode cX11_jointIs 70 = .ok (.aload_n 0, 1) := by decide +kernel
theorem dX11_jointIs_71 : decode cX11_jointIs 71 = .ok (.getfield 12, 3) := by decide +kernel
theorem dX11_jointIs_74 : decode cX11_jointIs 74 = .ok (.getfield 84, 3) := by decide +kernel
theorem dX11_jointIs_77 : decode cX11_jointIs 77 = .ok (.iload_n 1, 1) := by decide +kernel
theorem dX11_jointIs_78 : decode cX11_jointIs 78 = .ok (.iaload, 1) := by decide +kernel
theorem dX11_jointIs_79 : decode cX11_jointIs 79 = .ok (.ireturn, 1) := by decide +kernel
theorem dX11_jointIs_80 : decode cX11_jointIs 80 = .ok (.aload_n 0, 1) := by decide +kernel
theorem dX11_jointIs_81 : decode cX11_jointIs 81 = .ok (.getfield 12, 3) := by decide +kernel
theorem dX11_jointIs_84 : decode cX11_jointIs 84 = .ok (.getfield 87, 3) := by decide +kernel
theorem dX11_jointIs_87 : decode cX11_jointIs 87 = .ok (.iload_n 1, 1) := by decide +kernel
theorem dX11_jointIs_88 : decode cX11_jointIs 88 = .ok (.iaload, 1) := by decide +kernel
theorem dX11_jointIs_89 : decode cX11_jointIs 89 = .ok (.ireturn, 1) := by decide +kernel
theorem dX11_jointIs_90 : decode cX11_jointIs 90 = .ok (.aload_n 0, 1) := by decide +kernel
theorem dX11_jointIs_91 : decode cX11_jointIs 91 = .ok (.getfield 12, 3) := by decide +kernel
theorem dX11_jointIs_94 : decode cX11_jointIs 94 = .ok (.getfield 90, 3) := by decide +kernel
theorem dX11_jointIs_97 : decode cX11_jointIs 97 = .ok (.getfield 93, 3) := by decide +kernel
theorem dX11_jointIs_100 : decode cX11_jointIs 100 = .ok (.iload_n 1, 1) := by decide +kernel
theorem dX11_jointIs_101 : decode cX11_jointIs 101 = .ok (.iconst 5, 1) := by decide +kernel
theorem dX11_jointIs_102 : decode cX11_jointIs 102 = .ok (.imul, 1) := by decide +kernel
theorem dX11_jointIs_103 : decode cX11_jointIs 103 = .ok (.iaload, 1) := by decide +kernel
theorem dX11_jointIs_104 : decode cX11_jointIs 104 = .ok (.ireturn, 1) := by decide +kernel
theorem dX11_jointIs_105 : decode cX11_jointIs 105 = .ok (.aload_n 0, 1) := by decide +kernel
theorem dX11_jointIs_106 : decode cX11_jointIs 106 = .ok (.getfield 12, 3) := by decide +kernel
theorem dX11_jointIs_109 : decode cX11_jointIs 109 = .ok (.getfield 90, 3) := by decide +kernel
theorem dX11_jointIs_112 : decode cX11_jointIs 112 = .ok (.getfield 96, 3) := by decide +kernel
theorem dX11_jointIs_115 : decode cX11_jointIs 115 = .ok (.iload_n 1, 1) := by decide +kernel
theorem dX11_jointIs_116 : decode cX11_jointIs 116 = .ok (.iaload, 1) := by decide +kernel
theorem dX11_jointIs_117 : decode cX11_jointIs 117 = .ok (.ireturn, 1) := by decide +kernel
theorem dX11_jointIs_118 : decode cX11_jointIs 118 = .ok (.aload_n 0, 1) := by decide +kernel
theorem dX11_jointIs_119 : decode cX11_jointIs 119 = .ok (.getfield 12, 3) := by decide +kernel
theorem dX11_jointIs_122 : decode cX11_jointIs 122 = .ok (.getfield 90, 3) := by decide +kernel
theorem dX11_jointIs_125 : decode cX11_jointIs 125 = .ok (.getfield 99, 3) := by decide +kernel
theorem dX11_jointIs_128 : decode cX11_jointIs 128 = .ok (.iload_n 1, 1) := by decide +kernel
theorem dX11_jointIs_129 : decode cX11_jointIs 129 = .ok (.iaload, 1) := by decide +kernel
theorem dX11_jointIs_130 : decode cX11_jointIs 130 = .ok (.ireturn, 1) := by decide +kernel
theorem dX11_jointIs_131 : decode cX11_jointIs 131 = .ok (.aload_n 0, 1) := by decide +kernel
theorem dX11_jointIs_132 : decode cX11_jointIs 132 = .ok (.getfield 12, 3) := by decide +kernel
theorem dX11_jointIs_135 : decode cX11_jointIs 135 = .ok (.getfield 102, 3) := by decide +kernel
theorem dX11_jointIs_138 : decode cX11_jointIs 138 = .ok (.iload_n 1, 1) := by decide +kernel
theorem dX11_jointIs_139 : decode cX11_jointIs 139 = .ok (.invokestatic 105, 3) := by decide +kernel
theorem dX11_jointIs_142 : decode cX11_jointIs 142 = .ok (.ireturn, 1) := by decide +kernel
theorem dX11_jointIs_143 : decode cX11_jointIs 143 = .ok (.aload_n 0, 1) := by decide +kernel
theorem dX11_jointIs_144 : decode cX11_jointIs 144 = .ok (.iconst 1, 1) := by decide +kernel
theorem dX11_jointIs_145 : decode cX11_jointIs 145 = .ok (.invokevirtual 66, 3) := by decide +kernel
theorem dX11_jointIs_148 : decode cX11_jointIs 148 = .ok (.ireturn, 1) := by decide +kernel
def D_X11_jointIs (N : Nat) (h : mh_H) (l0 : Nat) (l1 : Int32) (l2 : Int32) : Option (Int32 × mh_H) :=
  (gR h 11 l0 0).bind fun v1 =>
  kO h 10 v1 <|
  (D_X10_isJoint N h v1 l1).bind fun q2 =>
  if q2.1 = 0 then (kO q2.2 11 l0 <|
  (D_X11_error N q2.2 l0 (1 : Int32)).bind fun q3 =>
  some (q3.1, q3.2))
  else (if l2 = 0 then ((gR q2.2 11 l0 0).bind fun v3 =>
  (gR q2.2 10 v3 3).bind fun v4 =>
  (aI q2.2 v4 l1).bind fun v5 =>
  some (v5, q2.2))
  else if l2 = 1 then ((gR q2.2 11 l0 0).bind fun v3 =>
  (gR q2.2 10 v3 4).bind fun v4 =>
  (aI q2.2 v4 l1).bind fun v5 =>
  some (v5, q2.2))
  else if l2 = 2 then ((gR q2.2 11 l0 0).bind fun v3 =>
  (gR q2.2 10 v3 5).bind fun v4 =>
  (aI q2.2 v4 l1).bind fun v5 =>
  some (v5, q2.2))
  else if l2 = 3 then ((gR q2.2 11 l0 0).bind fun v3 =>
  (gR q2.2 10 v3 7).bind fun v4 =>
  (gR q2.2 8 v4 5).bind fun v5 =>
  (aI q2.2 v5 (l1 * (5 : Int32))).bind fun v6 =>
  some (v6, q2.2))
  else if l2 = 4 then ((gR q2.2 11 l0 0).bind fun v3 =>
  (gR q2.2 10 v3 7).bind fun v4 =>
  (gR q2.2 8 v4 8).bind fun v5 =>
  (aI q2.2 v5 l1).bind fun v6 =>
  some (v6, q2.2))
  else if l2 = 5 then ((gR q2.2 11 l0 0).bind fun v3 =>
  (gR q2.2 10 v3 7).bind fun v4 =>
  (gR q2.2 8 v4 9).bind fun v5 =>
  (aI q2.2 v5 l1).bind fun v6 =>
  some (v6, q2.2))
  else if l2 = 6 then ((gR q2.2 11 l0 0).bind fun v3 =>
  (gI q2.2 10 v3 2).bind fun v4 =>
  (D_X11_bit N q2.2 v4 l1).bind fun q5 =>
  some (q5.1, q5.2))
  else (kO q2.2 11 l0 <|
  (D_X11_error N q2.2 l0 (1 : Int32)).bind fun q3 =>
  some (q3.1, q3.2)))
set_option maxHeartbeats 4000000 in
set_option maxRecDepth 100000 in
theorem T_X11_jointIs {P : mh_E → Prop} {N d : Nat} (hd : 3 ≤ d) {z : (Int32 × mh_H)} {h : mh_H} {l0 : Nat} {l1 : Int32} {l2 : Int32} (hq : D_X11_jointIs N h l0 l1 l2 = some z) : mh_go P d mX11_jointIs 0 [some (.ref l0), some (.int l1), some (.int l2)] [] h (some (.int z.1)) z.2 := by
  unfold D_X11_jointIs at hq
  refine st_aload_n (pc := 0) dX11_jointIs_0 rfl ?_
  refine bd_getr (pc := 1) hq dX11_jointIs_1 fl_11_12_11 rfl (fun v1 hq => ?_)
  refine st_iload_n (pc := 4) dX11_jointIs_4 rfl ?_
  obtain ⟨⟨hbq2, hkq2⟩, hq⟩ := mh_oi hq
  obtain ⟨q2, e2, hq⟩ := mh_ob hq
  refine st_invV (pc := 5) (ci := 10) (vs := [.int l1]) (rest := []) (st2 := [.int q2.1]) dX11_jointIs_5 okX10_isJoint (by decide) hkq2 hbq2 wd_339 wd_340 wd_341 pdX10_isJoint rfl rfl rfl rfl (Nat.le_trans (by decide) hd) (Nat.le_of_ble_eq_true rfl) (T_X10_isJoint (Nat.le_refl _) e2) rfl ?_
  refine bd_if_ne (pc := 8) (tgt := 17) hq dX11_jointIs_8 (by decide) (fun _ hq => ?_) (fun _ hq => ?_)
  ·
    refine st_aload_n (pc := 11) dX11_jointIs_11 rfl ?_
    refine st_iconst (pc := 12) (v := (1 : Int32)) dX11_jointIs_12 rfl ?_
    obtain ⟨⟨hbq3, hkq3⟩, hq⟩ := mh_oi hq
    obtain ⟨q3, e3, hq⟩ := mh_ob hq
    refine st_invV (pc := 13) (ci := 11) (vs := [.int (1 : Int32)]) (rest := []) (st2 := [.int q3.1]) dX11_jointIs_13 okX11_error (by decide) hkq3 hbq3 wd_326 wd_328 wp_0 pdX11_error rfl rfl rfl rfl (Nat.le_trans (by decide) hd) (Nat.le_of_ble_eq_true rfl) (T_X11_error (Nat.le_refl _) e3) rfl ?_
    exact bd_iret (pc := 16) hq dX11_jointIs_16 rfl
  ·
    refine st_iload_n (pc := 17) dX11_jointIs_17 rfl ?_
    by_cases c0 : l2 = 0
    ·
      rw [if_pos c0] at hq
      refine st_tin (pc := 18) (tgt := 60) dX11_jointIs_18 (by rw [c0]; decide) (by rw [c0]; decide) (by rw [c0]; rfl) (by decide) ?_
      refine st_aload_n (pc := 60) dX11_jointIs_60 rfl ?_
      refine bd_getr (pc := 61) hq dX11_jointIs_61 fl_11_12_11 rfl (fun v3 hq => ?_)
      refine bd_getr (pc := 64) hq dX11_jointIs_64 fl_11_81_10 rfl (fun v4 hq => ?_)
      refine st_iload_n (pc := 67) dX11_jointIs_67 rfl ?_
      refine bd_iald (pc := 68) hq dX11_jointIs_68 (fun v5 hq => ?_)
      exact bd_iret (pc := 69) hq dX11_jointIs_69 rfl
    ·
      rw [if_neg c0] at hq
      by_cases c1 : l2 = 1
      ·
        rw [if_pos c1] at hq
        refine st_tin (pc := 18) (tgt := 70) dX11_jointIs_18 (by rw [c1]; decide) (by rw [c1]; decide) (by rw [c1]; rfl) (by decide) ?_
        refine st_aload_n (pc := 70) dX11_jointIs_70 rfl ?_
        refine bd_getr (pc := 71) hq dX11_jointIs_71 fl_11_12_11 rfl (fun v3 hq => ?_)
        refine bd_getr (pc := 74) hq dX11_jointIs_74 fl_11_84_10 rfl (fun v4 hq => ?_)
        refine st_iload_n (pc := 77) dX11_jointIs_77 rfl ?_
        refine bd_iald (pc := 78) hq dX11_jointIs_78 (fun v5 hq => ?_)
        exact bd_iret (pc := 79) hq dX11_jointIs_79 rfl
      ·
        rw [if_neg c1] at hq
        by_cases c2 : l2 = 2
        ·
          rw [if_pos c2] at hq
          refine st_tin (pc := 18) (tgt := 80) dX11_jointIs_18 (by rw [c2]; decide) (by rw [c2]; decide) (by rw [c2]; rfl) (by decide) ?_
          refine st_aload_n (pc := 80) dX11_jointIs_80 rfl ?_
          refine bd_getr (pc := 81) hq dX11_jointIs_81 fl_11_12_11 rfl (fun v3 hq => ?_)
          refine bd_getr (pc := 84) hq dX11_jointIs_84 fl_11_87_10 rfl (fun v4 hq => ?_)
          refine st_iload_n (pc := 87) dX11_jointIs_87 rfl ?_
          refine bd_iald (pc := 88) hq dX11_jointIs_88 (fun v5 hq => ?_)
          exact bd_iret (pc := 89) hq dX11_jointIs_89 rfl
        ·
          rw [if_neg c2] at hq
          by_cases c3 : l2 = 3
          ·
            rw [if_pos c3] at hq
            refine st_tin (pc := 18) (tgt := 90) dX11_jointIs_18 (by rw [c3]; decide) (by rw [c3]; decide) (by rw [c3]; rfl) (by decide) ?_
            refine st_aload_n (pc := 90) dX11_jointIs_90 rfl ?_
            refine bd_getr (pc := 91) hq dX11_jointIs_91 fl_11_12_11 rfl (fun v3 hq => ?_)
            refine bd_getr (pc := 94) hq dX11_jointIs_94 fl_11_90_10 rfl (fun v4 hq => ?_)
            refine bd_getr (pc := 97) hq dX11_jointIs_97 fl_11_93_8 rfl (fun v5 hq => ?_)
            refine st_iload_n (pc := 100) dX11_jointIs_100 rfl ?_
            refine st_iconst (pc := 101) (v := (5 : Int32)) dX11_jointIs_101 rfl ?_
            refine st_imul (pc := 102) dX11_jointIs_102 ?_
            refine bd_iald (pc := 103) hq dX11_jointIs_103 (fun v6 hq => ?_)
            exact bd_iret (pc := 104) hq dX11_jointIs_104 rfl
          ·
            rw [if_neg c3] at hq
            by_cases c4 : l2 = 4
            ·
              rw [if_pos c4] at hq
              refine st_tin (pc := 18) (tgt := 105) dX11_jointIs_18 (by rw [c4]; decide) (by rw [c4]; decide) (by rw [c4]; rfl) (by decide) ?_
              refine st_aload_n (pc := 105) dX11_jointIs_105 rfl ?_
              refine bd_getr (pc := 106) hq dX11_jointIs_106 fl_11_12_11 rfl (fun v3 hq => ?_)
              refine bd_getr (pc := 109) hq dX11_jointIs_109 fl_11_90_10 rfl (fun v4 hq => ?_)
              refine bd_getr (pc := 112) hq dX11_jointIs_112 fl_11_96_8 rfl (fun v5 hq => ?_)
              refine st_iload_n (pc := 115) dX11_jointIs_115 rfl ?_
              refine bd_iald (pc := 116) hq dX11_jointIs_116 (fun v6 hq => ?_)
              exact bd_iret (pc := 117) hq dX11_jointIs_117 rfl
            ·
              rw [if_neg c4] at hq
              by_cases c5 : l2 = 5
              ·
                rw [if_pos c5] at hq
                refine st_tin (pc := 18) (tgt := 118) dX11_jointIs_18 (by rw [c5]; decide) (by rw [c5]; decide) (by rw [c5]; rfl) (by decide) ?_
                refine st_aload_n (pc := 118) dX11_jointIs_118 rfl ?_
                refine bd_getr (pc := 119) hq dX11_jointIs_119 fl_11_12_11 rfl (fun v3 hq => ?_)
                refine bd_getr (pc := 122) hq dX11_jointIs_122 fl_11_90_10 rfl (fun v4 hq => ?_)
                refine bd_getr (pc := 125) hq dX11_jointIs_125 fl_11_99_8 rfl (fun v5 hq => ?_)
                refine st_iload_n (pc := 128) dX11_jointIs_128 rfl ?_
                refine bd_iald (pc := 129) hq dX11_jointIs_129 (fun v6 hq => ?_)
                exact bd_iret (pc := 130) hq dX11_jointIs_130 rfl
              ·
                rw [if_neg c5] at hq
                by_cases c6 : l2 = 6
                ·
                  rw [if_pos c6] at hq
                  refine st_tin (pc := 18) (tgt := 131) dX11_jointIs_18 (by rw [c6]; decide) (by rw [c6]; decide) (by rw [c6]; rfl) (by decide) ?_
                  refine st_aload_n (pc := 131) dX11_jointIs_131 rfl ?_
                  refine bd_getr (pc := 132) hq dX11_jointIs_132 fl_11_12_11 rfl (fun v3 hq => ?_)
                  refine bd_geti (pc := 135) hq dX11_jointIs_135 fl_11_102_10 rfl (fun v4 hq => ?_)
                  refine st_iload_n (pc := 138) dX11_jointIs_138 rfl ?_
                  obtain ⟨q5, e5, hq⟩ := mh_ob hq
                  refine st_invS (pc := 139) (Y := mX11_bit) (vs := [.int v4, .int l1]) (rest := []) (st2 := [.int q5.1]) dX11_jointIs_139 okX11_bit wd_343 wd_344 pdX11_bit rfl rfl rfl rfl (Nat.le_trans (by decide) hd) (Nat.le_of_ble_eq_true rfl) (T_X11_bit (Nat.le_refl _) e5) rfl ?_
                  exact bd_iret (pc := 142) hq dX11_jointIs_142 rfl
                ·
                  rw [if_neg c6] at hq
                  refine st_tout (pc := 18) (tgt := 143) dX11_jointIs_18 (by have e0 := lv_neT c0 (k := 0) (a := 0) (by decide); have e1 := lv_neT c1 (k := 1) (a := 1) (by decide); have e2 := lv_neT c2 (k := 2) (a := 2) (by decide); have e3 := lv_neT c3 (k := 3) (a := 3) (by decide); have e4 := lv_neT c4 (k := 4) (a := 4) (by decide); have e5 := lv_neT c5 (k := 5) (a := 5) (by decide); have e6 := lv_neT c6 (k := 6) (a := 6) (by decide); omega) (by decide) ?_
                  refine st_aload_n (pc := 143) dX11_jointIs_143 rfl ?_
                  refine st_iconst (pc := 144) (v := (1 : Int32)) dX11_jointIs_144 rfl ?_
                  obtain ⟨⟨hbq3, hkq3⟩, hq⟩ := mh_oi hq
                  obtain ⟨q3, e3, hq⟩ := mh_ob hq
                  refine st_invV (pc := 145) (ci := 11) (vs := [.int (1 : Int32)]) (rest := []) (st2 := [.int q3.1]) dX11_jointIs_145 okX11_error (by decide) hkq3 hbq3 wd_326 wd_328 wp_0 pdX11_error rfl rfl rfl rfl (Nat.le_trans (by decide) hd) (Nat.le_of_ble_eq_true rfl) (T_X11_error (Nat.le_refl _) e3) rfl ?_
                  exact bd_iret (pc := 148) hq dX11_jointIs_148 rfl
-- HoleWater$Sieve.<init>(IIII)V
theorem dX7_init_0 : decode cX7_init 0 = .ok (.aload_n 0, 1) := by decide +kernel
theorem dX7_init_1 : decode cX7_init 1 = .ok (.iload_n 1, 1) := by decide +kernel
theorem dX7_init_2 : decode cX7_init 2 = .ok (.iload_n 2, 1) := by decide +kernel
theorem dX7_init_3 : decode cX7_init 3 = .ok (.iload_n 3, 1) := by decide +kernel
theorem dX7_init_4 : decode cX7_init 4 = .ok (.iload 4, 2) := by decide +kernel
theorem dX7_init_6 : decode cX7_init 6 = .ok (.invokespecial 1, 3) := by decide +kernel
theorem dX7_init_9 : decode cX7_init 9 = .ok (.return_, 1) := by decide +kernel
def D_X7_init (N : Nat) (h : mh_H) (l0 : Nat) (l1 : Int32) (l2 : Int32) (l3 : Int32) (l4 : Int32) : Option mh_H :=
  (D_X9_init N h l0 l1 l2 l3 l4).bind fun q1 =>
  some q1
set_option maxHeartbeats 4000000 in
set_option maxRecDepth 100000 in
theorem T_X7_init {P : mh_E → Prop} {N d : Nat} (hd : 2 ≤ d) {z : mh_H} {h : mh_H} {l0 : Nat} {l1 : Int32} {l2 : Int32} {l3 : Int32} {l4 : Int32} (hq : D_X7_init N h l0 l1 l2 l3 l4 = some z) : mh_go P d mX7_init 0 [some (.ref l0), some (.int l1), some (.int l2), some (.int l3), some (.int l4)] [] h none z := by
  unfold D_X7_init at hq
  refine st_aload_n (pc := 0) dX7_init_0 rfl ?_
  refine st_iload_n (pc := 1) dX7_init_1 rfl ?_
  refine st_iload_n (pc := 2) dX7_init_2 rfl ?_
  refine st_iload_n (pc := 3) dX7_init_3 rfl ?_
  refine st_iload (pc := 4) dX7_init_4 rfl ?_
  obtain ⟨q1, e1, hq⟩ := mh_ob hq
  refine st_invI (pc := 6) (b := l0) (vs := [.int l1, .int l2, .int l3, .int l4]) (rest := []) (st2 := []) dX7_init_6 okX9_init wd_379 wd_156 rfl pdX9_init rfl rfl rfl rfl (Nat.le_trans (by decide) hd) (Nat.le_of_ble_eq_true rfl) (T_X9_init (Nat.le_refl _) e1) rfl ?_
  exact bd_vret (pc := 9) hq dX7_init_9 rfl
-- HoleWater$Blind.<init>(IIII)V
theorem dX0_init_0 : decode cX0_init 0 = .ok (.aload_n 0, 1) := by decide +kernel
theorem dX0_init_1 : decode cX0_init 1 = .ok (.iload_n 1, 1) := by decide +kernel
theorem dX0_init_2 : decode cX0_init 2 = .ok (.iload_n 2, 1) := by decide +kernel
theorem dX0_init_3 : decode cX0_init 3 = .ok (.iload_n 3, 1) := by decide +kernel
theorem dX0_init_4 : decode cX0_init 4 = .ok (.iload 4, 2) := by decide +kernel
theorem dX0_init_6 : decode cX0_init 6 = .ok (.invokespecial 1, 3) := by decide +kernel
theorem dX0_init_9 : decode cX0_init 9 = .ok (.return_, 1) := by decide +kernel
def D_X0_init (N : Nat) (h : mh_H) (l0 : Nat) (l1 : Int32) (l2 : Int32) (l3 : Int32) (l4 : Int32) : Option mh_H :=
  (D_X7_init N h l0 l1 l2 l3 l4).bind fun q1 =>
  some q1
set_option maxHeartbeats 4000000 in
set_option maxRecDepth 100000 in
theorem T_X0_init {P : mh_E → Prop} {N d : Nat} (hd : 3 ≤ d) {z : mh_H} {h : mh_H} {l0 : Nat} {l1 : Int32} {l2 : Int32} {l3 : Int32} {l4 : Int32} (hq : D_X0_init N h l0 l1 l2 l3 l4 = some z) : mh_go P d mX0_init 0 [some (.ref l0), some (.int l1), some (.int l2), some (.int l3), some (.int l4)] [] h none z := by
  unfold D_X0_init at hq
  refine st_aload_n (pc := 0) dX0_init_0 rfl ?_
  refine st_iload_n (pc := 1) dX0_init_1 rfl ?_
  refine st_iload_n (pc := 2) dX0_init_2 rfl ?_
  refine st_iload_n (pc := 3) dX0_init_3 rfl ?_
  refine st_iload (pc := 4) dX0_init_4 rfl ?_
  obtain ⟨q1, e1, hq⟩ := mh_ob hq
  refine st_invI (pc := 6) (b := l0) (vs := [.int l1, .int l2, .int l3, .int l4]) (rest := []) (st2 := []) dX0_init_6 okX7_init wd_412 wd_377 rfl pdX7_init rfl rfl rfl rfl (Nat.le_trans (by decide) hd) (Nat.le_of_ble_eq_true rfl) (T_X7_init (Nat.le_refl _) e1) rfl ?_
  exact bd_vret (pc := 9) hq dX0_init_9 rfl
-- HoleWater$Open.<init>(IIII)V
theorem dX2_init_0 : decode cX2_init 0 = .ok (.aload_n 0, 1) := by decide +kernel
theorem dX2_init_1 : decode cX2_init 1 = .ok (.iload_n 1, 1) := by decide +kernel
theorem dX2_init_2 : decode cX2_init 2 = .ok (.iload_n 2, 1) := by decide +kernel
theorem dX2_init_3 : decode cX2_init 3 = .ok (.iload_n 3, 1) := by decide +kernel
theorem dX2_init_4 : decode cX2_init 4 = .ok (.iload 4, 2) := by decide +kernel
theorem dX2_init_6 : decode cX2_init 6 = .ok (.invokespecial 1, 3) := by decide +kernel
theorem dX2_init_9 : decode cX2_init 9 = .ok (.return_, 1) := by decide +kernel
def D_X2_init (N : Nat) (h : mh_H) (l0 : Nat) (l1 : Int32) (l2 : Int32) (l3 : Int32) (l4 : Int32) : Option mh_H :=
  (D_X9_init N h l0 l1 l2 l3 l4).bind fun q1 =>
  some q1
set_option maxHeartbeats 4000000 in
set_option maxRecDepth 100000 in
theorem T_X2_init {P : mh_E → Prop} {N d : Nat} (hd : 2 ≤ d) {z : mh_H} {h : mh_H} {l0 : Nat} {l1 : Int32} {l2 : Int32} {l3 : Int32} {l4 : Int32} (hq : D_X2_init N h l0 l1 l2 l3 l4 = some z) : mh_go P d mX2_init 0 [some (.ref l0), some (.int l1), some (.int l2), some (.int l3), some (.int l4)] [] h none z := by
  unfold D_X2_init at hq
  refine st_aload_n (pc := 0) dX2_init_0 rfl ?_
  refine st_iload_n (pc := 1) dX2_init_1 rfl ?_
  refine st_iload_n (pc := 2) dX2_init_2 rfl ?_
  refine st_iload_n (pc := 3) dX2_init_3 rfl ?_
  refine st_iload (pc := 4) dX2_init_4 rfl ?_
  obtain ⟨q1, e1, hq⟩ := mh_ob hq
  refine st_invI (pc := 6) (b := l0) (vs := [.int l1, .int l2, .int l3, .int l4]) (rest := []) (st2 := []) dX2_init_6 okX9_init wd_368 wd_156 rfl pdX9_init rfl rfl rfl rfl (Nat.le_trans (by decide) hd) (Nat.le_of_ble_eq_true rfl) (T_X9_init (Nat.le_refl _) e1) rfl ?_
  exact bd_vret (pc := 9) hq dX2_init_9 rfl
-- HoleWater$Overflow.<init>(IIII)V
theorem dX3_init_0 : decode cX3_init 0 = .ok (.aload_n 0, 1) := by decide +kernel
theorem dX3_init_1 : decode cX3_init 1 = .ok (.iload_n 1, 1) := by decide +kernel
theorem dX3_init_2 : decode cX3_init 2 = .ok (.iload_n 2, 1) := by decide +kernel
theorem dX3_init_3 : decode cX3_init 3 = .ok (.iload_n 3, 1) := by decide +kernel
theorem dX3_init_4 : decode cX3_init 4 = .ok (.iload 4, 2) := by decide +kernel
theorem dX3_init_6 : decode cX3_init 6 = .ok (.invokespecial 1, 3) := by decide +kernel
theorem dX3_init_9 : decode cX3_init 9 = .ok (.return_, 1) := by decide +kernel
def D_X3_init (N : Nat) (h : mh_H) (l0 : Nat) (l1 : Int32) (l2 : Int32) (l3 : Int32) (l4 : Int32) : Option mh_H :=
  (D_X2_init N h l0 l1 l2 l3 l4).bind fun q1 =>
  some q1
set_option maxHeartbeats 4000000 in
set_option maxRecDepth 100000 in
theorem T_X3_init {P : mh_E → Prop} {N d : Nat} (hd : 3 ≤ d) {z : mh_H} {h : mh_H} {l0 : Nat} {l1 : Int32} {l2 : Int32} {l3 : Int32} {l4 : Int32} (hq : D_X3_init N h l0 l1 l2 l3 l4 = some z) : mh_go P d mX3_init 0 [some (.ref l0), some (.int l1), some (.int l2), some (.int l3), some (.int l4)] [] h none z := by
  unfold D_X3_init at hq
  refine st_aload_n (pc := 0) dX3_init_0 rfl ?_
  refine st_iload_n (pc := 1) dX3_init_1 rfl ?_
  refine st_iload_n (pc := 2) dX3_init_2 rfl ?_
  refine st_iload_n (pc := 3) dX3_init_3 rfl ?_
  refine st_iload (pc := 4) dX3_init_4 rfl ?_
  obtain ⟨q1, e1, hq⟩ := mh_ob hq
  refine st_invI (pc := 6) (b := l0) (vs := [.int l1, .int l2, .int l3, .int l4]) (rest := []) (st2 := []) dX3_init_6 okX2_init wd_390 wd_366 rfl pdX2_init rfl rfl rfl rfl (Nat.le_trans (by decide) hd) (Nat.le_of_ble_eq_true rfl) (T_X2_init (Nat.le_refl _) e1) rfl ?_
  exact bd_vret (pc := 9) hq dX3_init_9 rfl
-- HoleWater$Pool.<init>(IIII)V
theorem dX4_init_0 : decode cX4_init 0 = .ok (.aload_n 0, 1) := by decide +kernel
theorem dX4_init_1 : decode cX4_init 1 = .ok (.iload_n 1, 1) := by decide +kernel
theorem dX4_init_2 : decode cX4_init 2 = .ok (.iload_n 2, 1) := by decide +kernel
theorem dX4_init_3 : decode cX4_init 3 = .ok (.iload_n 3, 1) := by decide +kernel
theorem dX4_init_4 : decode cX4_init 4 = .ok (.iload 4, 2) := by decide +kernel
theorem dX4_init_6 : decode cX4_init 6 = .ok (.invokespecial 1, 3) := by decide +kernel
theorem dX4_init_9 : decode cX4_init 9 = .ok (.return_, 1) := by decide +kernel
def D_X4_init (N : Nat) (h : mh_H) (l0 : Nat) (l1 : Int32) (l2 : Int32) (l3 : Int32) (l4 : Int32) : Option mh_H :=
  (D_X9_init N h l0 l1 l2 l3 l4).bind fun q1 =>
  some q1
set_option maxHeartbeats 4000000 in
set_option maxRecDepth 100000 in
theorem T_X4_init {P : mh_E → Prop} {N d : Nat} (hd : 2 ≤ d) {z : mh_H} {h : mh_H} {l0 : Nat} {l1 : Int32} {l2 : Int32} {l3 : Int32} {l4 : Int32} (hq : D_X4_init N h l0 l1 l2 l3 l4 = some z) : mh_go P d mX4_init 0 [some (.ref l0), some (.int l1), some (.int l2), some (.int l3), some (.int l4)] [] h none z := by
  unfold D_X4_init at hq
  refine st_aload_n (pc := 0) dX4_init_0 rfl ?_
  refine st_iload_n (pc := 1) dX4_init_1 rfl ?_
  refine st_iload_n (pc := 2) dX4_init_2 rfl ?_
  refine st_iload_n (pc := 3) dX4_init_3 rfl ?_
  refine st_iload (pc := 4) dX4_init_4 rfl ?_
  obtain ⟨q1, e1, hq⟩ := mh_ob hq
  refine st_invI (pc := 6) (b := l0) (vs := [.int l1, .int l2, .int l3, .int l4]) (rest := []) (st2 := []) dX4_init_6 okX9_init wd_401 wd_156 rfl pdX9_init rfl rfl rfl rfl (Nat.le_trans (by decide) hd) (Nat.le_of_ble_eq_true rfl) (T_X9_init (Nat.le_refl _) e1) rfl ?_
  exact bd_vret (pc := 9) hq dX4_init_9 rfl
-- HoleWater.makeWay(IIIII)LHoleWater$Way;
theorem dX11_makeWay_0 : decode cX11_makeWay 0 = .ok (.iload_n 0, 1) := by decide +kernel
theorem dX11_makeWay_1 : decode cX11_makeWay 1 = .ok (.tableswitch 100 1 5 #[35, 48, 61, 74, 87], 35) := by decide +kernel
theorem dX11_makeWay_36 : decode cX11_makeWay 36 = .ok (.new 385, 3) := by decide +kernel
theorem dX11_makeWay_39 : decode cX11_makeWay 39 = .ok (.dup, 1) := by decide +kernel
theorem dX11_makeWay_40 : decode cX11_makeWay 40 = .ok (.iload_n 1, 1) := by decide +kernel
theorem dX11_makeWay_41 : decode cX11_makeWay 41 = .ok (.iload_n 2, 1) := by decide +kernel
theorem dX11_makeWay_42 : decode cX11_makeWay 42 = .ok (.iload_n 3, 1) := by decide +kernel
theorem dX11_makeWay_43 : decode cX11_makeWay 43 = .ok (.iload 4, 2) := by decide +kernel
theorem dX11_makeWay_45 : decode cX11_makeWay 45 = .ok (.invokespecial 387, 3) := by decide +kernel
theorem dX11_makeWay_48 : decode cX11_makeWay 48 = .ok (.areturn, 1) := by decide +kernel
theorem dX11_makeWay_49 : decode cX11_makeWay 49 = .ok (.new 389, 3) := by decide +kernel
theorem dX11_makeWay_52 : decode cX11_makeWay 52 = .ok (.dup, 1) := by decide +kernel
theorem dX11_makeWay_53 : decode cX11_makeWay 53 = .ok (.iload_n 1, 1) := by decide +kernel
theorem dX11_makeWay_54 : decode cX11_makeWay 54 = .ok (.iload_n 2, 1) := by decide +kernel
theorem dX11_makeWay_55 : decode cX11_makeWay 55 = .ok (.iload_n 3, 1) := by decide +kernel
theorem dX11_makeWay_56 : decode cX11_makeWay 56 = .ok (.iload 4, 2) := by decide +kernel
theorem dX11_makeWay_58 : decode cX11_makeWay 58 = .ok (.invokespecial 391, 3) := by decide +kernel
theorem dX11_makeWay_61 : decode cX11_makeWay 61 = .ok (.areturn, 1) := by decide +kernel
theorem dX11_makeWay_62 : decode cX11_makeWay 62 = .ok (.new 164, 3) := by decide +kernel
theorem dX11_makeWay_65 : decode cX11_makeWay 65 = .ok (.dup, 1) := by decide +kernel
theorem dX11_makeWay_66 : decode cX11_makeWay 66 = .ok (.iload_n 1, 1) := by decide +kernel
theorem dX11_makeWay_67 : decode cX11_makeWay 67 = .ok (.iload_n 2, 1) := by decide +kernel
theorem dX11_makeWay_68 : decode cX11_makeWay 68 = .ok (.iload_n 3, 1) := by decide +kernel
theorem dX11_makeWay_69 : decode cX11_makeWay 69 = .ok (.iload 4, 2) := by decide +kernel
theorem dX11_makeWay_71 : decode cX11_makeWay 71 = .ok (.invokespecial 392, 3) := by decide +kernel
theorem dX11_makeWay_74 : decode cX11_makeWay 74 = .ok (.areturn, 1) := by decide +kernel
theorem dX11_makeWay_75 : decode cX11_makeWay 75 = .ok (.new 393, 3) := by decide +kernel
theorem dX11_makeWay_78 : decode cX11_makeWay 78 = .ok (.dup, 1) := by decide +kernel
theorem dX11_makeWay_79 : decode cX11_makeWay 79 = .ok (.iload_n 1, 1) := by decide +kernel
theorem dX11_makeWay_80 : decode cX11_makeWay 80 = .ok (.iload_n 2, 1) := by decide +kernel
theorem dX11_makeWay_81 : decode cX11_makeWay 81 = .ok (.iload_n 3, 1) := by decide +kernel
theorem dX11_makeWay_82 : decode cX11_makeWay 82 = .ok (.iload 4, 2) := by decide +kernel
theorem dX11_makeWay_84 : decode cX11_makeWay 84 = .ok (.invokespecial 395, 3) := by decide +kernel
theorem dX11_makeWay_87 : decode cX11_makeWay 87 = .ok (.areturn, 1) := by decide +kernel
theorem dX11_makeWay_88 : decode cX11_makeWay 88 = .ok (.new 162, 3) := by decide +kernel
theorem dX11_makeWay_91 : decode cX11_makeWay 91 = .ok (.dup, 1) := by decide +kernel
theorem dX11_makeWay_92 : decode cX11_makeWay 92 = .ok (.iload_n 1, 1) := by decide +kernel
theorem dX11_makeWay_93 : decode cX11_makeWay 93 = .ok (.iload_n 2, 1) := by decide +kernel
theorem dX11_makeWay_94 : decode cX11_makeWay 94 = .ok (.iload_n 3, 1) := by decide +kernel
theorem dX11_makeWay_95 : decode cX11_makeWay 95 = .ok (.iload 4, 2) := by decide +kernel
theorem dX11_makeWay_97 : decode cX11_makeWay 97 = .ok (.invokespecial 396, 3) := by decide +kernel
theorem dX11_makeWay_100 : decode cX11_makeWay 100 = .ok (.areturn, 1) := by decide +kernel
theorem dX11_makeWay_101 : decode cX11_makeWay 101 = .ok (.new 139, 3) := by decide +kernel
theorem dX11_makeWay_104 : decode cX11_makeWay 104 = .ok (.dup, 1) := by decide +kernel
theorem dX11_makeWay_105 : decode cX11_makeWay 105 = .ok (.iload_n 1, 1) := by decide +kernel
theorem dX11_makeWay_106 : decode cX11_makeWay 106 = .ok (.iload_n 2, 1) := by decide +kernel
theorem dX11_makeWay_107 : decode cX11_makeWay 107 = .ok (.iload_n 3, 1) := by decide +kernel
theorem dX11_makeWay_108 : decode cX11_makeWay 108 = .ok (.iload 4, 2) := by decide +kernel
theorem dX11_makeWay_110 : decode cX11_makeWay 110 = .ok (.invokespecial 397, 3) := by decide +kernel
theorem dX11_makeWay_113 : decode cX11_makeWay 113 = .ok (.areturn, 1) := by decide +kernel
def D_X11_makeWay (N : Nat) (h : mh_H) (l0 : Int32) (l1 : Int32) (l2 : Int32) (l3 : Int32) (l4 : Int32) : Option (Nat × mh_H) :=
  if l0 = 1 then ((nO h 2).bind fun h1 =>
  (D_X2_init N h1 (mh_n h) l1 l2 l3 l4).bind fun q2 =>
  some (mh_n h, q2))
  else if l0 = 2 then ((nO h 7).bind fun h1 =>
  (D_X7_init N h1 (mh_n h) l1 l2 l3 l4).bind fun q2 =>
  some (mh_n h, q2))
  else if l0 = 3 then ((nO h 3).bind fun h1 =>
  (D_X3_init N h1 (mh_n h) l1 l2 l3 l4).bind fun q2 =>
  some (mh_n h, q2))
  else if l0 = 4 then ((nO h 4).bind fun h1 =>
  (D_X4_init N h1 (mh_n h) l1 l2 l3 l4).bind fun q2 =>
  some (mh_n h, q2))
  else if l0 = 5 then ((nO h 0).bind fun h1 =>
  (D_X0_init N h1 (mh_n h) l1 l2 l3 l4).bind fun q2 =>
  some (mh_n h, q2))
  else ((nO h 9).bind fun h1 =>
  (D_X9_init N h1 (mh_n h) l1 l2 l3 l4).bind fun q2 =>
  some (mh_n h, q2))
set_option maxHeartbeats 4000000 in
set_option maxRecDepth 100000 in
theorem T_X11_makeWay {P : mh_E → Prop} {N d : Nat} (hd : 4 ≤ d) {z : (Nat × mh_H)} {h : mh_H} {l0 : Int32} {l1 : Int32} {l2 : Int32} {l3 : Int32} {l4 : Int32} (hq : D_X11_makeWay N h l0 l1 l2 l3 l4 = some z) : mh_go P d mX11_makeWay 0 [some (.int l0), some (.int l1), some (.int l2), some (.int l3), some (.int l4)] [] h (some (.ref z.1)) z.2 := by
  unfold D_X11_makeWay at hq
  refine st_iload_n (pc := 0) dX11_makeWay_0 rfl ?_
  by_cases c1 : l0 = 1
  ·
    rw [if_pos c1] at hq
    refine st_tin (pc := 1) (tgt := 36) dX11_makeWay_1 (by rw [c1]; decide) (by rw [c1]; decide) (by rw [c1]; rfl) (by decide) ?_
    refine bd_new (pc := 36) (ci := 2) hq dX11_makeWay_36 (by decide) wd_363 wd_364 wd_10 (fun h1 hq => ?_)
    refine st_dup (pc := 39) dX11_makeWay_39 rfl ?_
    refine st_iload_n (pc := 40) dX11_makeWay_40 rfl ?_
    refine st_iload_n (pc := 41) dX11_makeWay_41 rfl ?_
    refine st_iload_n (pc := 42) dX11_makeWay_42 rfl ?_
    refine st_iload (pc := 43) dX11_makeWay_43 rfl ?_
    obtain ⟨q2, e2, hq⟩ := mh_ob hq
    refine st_invI (pc := 45) (b := mh_n h) (vs := [.int l1, .int l2, .int l3, .int l4]) (rest := [.ref (mh_n h)]) (st2 := [.ref (mh_n h)]) dX11_makeWay_45 okX2_init wd_365 wd_366 rfl pdX2_init rfl rfl rfl rfl (Nat.le_trans (by decide) hd) (Nat.le_of_ble_eq_true rfl) (T_X2_init (Nat.le_refl _) e2) rfl ?_
    exact bd_aret (pc := 48) hq dX11_makeWay_48 rfl
  ·
    rw [if_neg c1] at hq
    by_cases c2 : l0 = 2
    ·
      rw [if_pos c2] at hq
      refine st_tin (pc := 1) (tgt := 49) dX11_makeWay_1 (by rw [c2]; decide) (by rw [c2]; decide) (by rw [c2]; rfl) (by decide) ?_
      refine bd_new (pc := 49) (ci := 7) hq dX11_makeWay_49 (by decide) wd_374 wd_375 wd_11 (fun h1 hq => ?_)
      refine st_dup (pc := 52) dX11_makeWay_52 rfl ?_
      refine st_iload_n (pc := 53) dX11_makeWay_53 rfl ?_
      refine st_iload_n (pc := 54) dX11_makeWay_54 rfl ?_
      refine st_iload_n (pc := 55) dX11_makeWay_55 rfl ?_
      refine st_iload (pc := 56) dX11_makeWay_56 rfl ?_
      obtain ⟨q2, e2, hq⟩ := mh_ob hq
      refine st_invI (pc := 58) (b := mh_n h) (vs := [.int l1, .int l2, .int l3, .int l4]) (rest := [.ref (mh_n h)]) (st2 := [.ref (mh_n h)]) dX11_makeWay_58 okX7_init wd_376 wd_377 rfl pdX7_init rfl rfl rfl rfl (Nat.le_trans (by decide) hd) (Nat.le_of_ble_eq_true rfl) (T_X7_init (Nat.le_refl _) e2) rfl ?_
      exact bd_aret (pc := 61) hq dX11_makeWay_61 rfl
    ·
      rw [if_neg c2] at hq
      by_cases c3 : l0 = 3
      ·
        rw [if_pos c3] at hq
        refine st_tin (pc := 1) (tgt := 62) dX11_makeWay_1 (by rw [c3]; decide) (by rw [c3]; decide) (by rw [c3]; rfl) (by decide) ?_
        refine bd_new (pc := 62) (ci := 3) hq dX11_makeWay_62 (by decide) wd_385 wd_386 wd_12 (fun h1 hq => ?_)
        refine st_dup (pc := 65) dX11_makeWay_65 rfl ?_
        refine st_iload_n (pc := 66) dX11_makeWay_66 rfl ?_
        refine st_iload_n (pc := 67) dX11_makeWay_67 rfl ?_
        refine st_iload_n (pc := 68) dX11_makeWay_68 rfl ?_
        refine st_iload (pc := 69) dX11_makeWay_69 rfl ?_
        obtain ⟨q2, e2, hq⟩ := mh_ob hq
        refine st_invI (pc := 71) (b := mh_n h) (vs := [.int l1, .int l2, .int l3, .int l4]) (rest := [.ref (mh_n h)]) (st2 := [.ref (mh_n h)]) dX11_makeWay_71 okX3_init wd_387 wd_388 rfl pdX3_init rfl rfl rfl rfl (Nat.le_trans (by decide) hd) (Nat.le_of_ble_eq_true rfl) (T_X3_init (Nat.le_refl _) e2) rfl ?_
        exact bd_aret (pc := 74) hq dX11_makeWay_74 rfl
      ·
        rw [if_neg c3] at hq
        by_cases c4 : l0 = 4
        ·
          rw [if_pos c4] at hq
          refine st_tin (pc := 1) (tgt := 75) dX11_makeWay_1 (by rw [c4]; decide) (by rw [c4]; decide) (by rw [c4]; rfl) (by decide) ?_
          refine bd_new (pc := 75) (ci := 4) hq dX11_makeWay_75 (by decide) wd_396 wd_397 wd_13 (fun h1 hq => ?_)
          refine st_dup (pc := 78) dX11_makeWay_78 rfl ?_
          refine st_iload_n (pc := 79) dX11_makeWay_79 rfl ?_
          refine st_iload_n (pc := 80) dX11_makeWay_80 rfl ?_
          refine st_iload_n (pc := 81) dX11_makeWay_81 rfl ?_
          refine st_iload (pc := 82) dX11_makeWay_82 rfl ?_
          obtain ⟨q2, e2, hq⟩ := mh_ob hq
          refine st_invI (pc := 84) (b := mh_n h) (vs := [.int l1, .int l2, .int l3, .int l4]) (rest := [.ref (mh_n h)]) (st2 := [.ref (mh_n h)]) dX11_makeWay_84 okX4_init wd_398 wd_399 rfl pdX4_init rfl rfl rfl rfl (Nat.le_trans (by decide) hd) (Nat.le_of_ble_eq_true rfl) (T_X4_init (Nat.le_refl _) e2) rfl ?_
          exact bd_aret (pc := 87) hq dX11_makeWay_87 rfl
        ·
          rw [if_neg c4] at hq
          by_cases c5 : l0 = 5
          ·
            rw [if_pos c5] at hq
            refine st_tin (pc := 1) (tgt := 88) dX11_makeWay_1 (by rw [c5]; decide) (by rw [c5]; decide) (by rw [c5]; rfl) (by decide) ?_
            refine bd_new (pc := 88) (ci := 0) hq dX11_makeWay_88 (by decide) wd_407 wd_408 wd_14 (fun h1 hq => ?_)
            refine st_dup (pc := 91) dX11_makeWay_91 rfl ?_
            refine st_iload_n (pc := 92) dX11_makeWay_92 rfl ?_
            refine st_iload_n (pc := 93) dX11_makeWay_93 rfl ?_
            refine st_iload_n (pc := 94) dX11_makeWay_94 rfl ?_
            refine st_iload (pc := 95) dX11_makeWay_95 rfl ?_
            obtain ⟨q2, e2, hq⟩ := mh_ob hq
            refine st_invI (pc := 97) (b := mh_n h) (vs := [.int l1, .int l2, .int l3, .int l4]) (rest := [.ref (mh_n h)]) (st2 := [.ref (mh_n h)]) dX11_makeWay_97 okX0_init wd_409 wd_410 rfl pdX0_init rfl rfl rfl rfl (Nat.le_trans (by decide) hd) (Nat.le_of_ble_eq_true rfl) (T_X0_init (Nat.le_refl _) e2) rfl ?_
            exact bd_aret (pc := 100) hq dX11_makeWay_100 rfl
          ·
            rw [if_neg c5] at hq
            refine st_tout (pc := 1) (tgt := 101) dX11_makeWay_1 (by have e1 := lv_neT c1 (k := 1) (a := 1) (by decide); have e2 := lv_neT c2 (k := 2) (a := 2) (by decide); have e3 := lv_neT c3 (k := 3) (a := 3) (by decide); have e4 := lv_neT c4 (k := 4) (a := 4) (by decide); have e5 := lv_neT c5 (k := 5) (a := 5) (by decide); omega) (by decide) ?_
            refine bd_new (pc := 101) (ci := 9) hq dX11_makeWay_101 (by decide) wd_418 wd_154 wd_7 (fun h1 hq => ?_)
            refine st_dup (pc := 104) dX11_makeWay_104 rfl ?_
            refine st_iload_n (pc := 105) dX11_makeWay_105 rfl ?_
            refine st_iload_n (pc := 106) dX11_makeWay_106 rfl ?_
            refine st_iload_n (pc := 107) dX11_makeWay_107 rfl ?_
            refine st_iload (pc := 108) dX11_makeWay_108 rfl ?_
            obtain ⟨q2, e2, hq⟩ := mh_ob hq
            refine st_invI (pc := 110) (b := mh_n h) (vs := [.int l1, .int l2, .int l3, .int l4]) (rest := [.ref (mh_n h)]) (st2 := [.ref (mh_n h)]) dX11_makeWay_110 okX9_init wd_419 wd_156 rfl pdX9_init rfl rfl rfl rfl (Nat.le_trans (by decide) hd) (Nat.le_of_ble_eq_true rfl) (T_X9_init (Nat.le_refl _) e2) rfl ?_
            exact bd_aret (pc := 113) hq dX11_makeWay_113 rfl
-- HoleWater$World.addWay(LHoleWater$Way;)I
theorem dX10_addWay_0 : decode cX10_addWay 0 = .ok (.aload_n 0, 1) := by decide +kernel
theorem dX10_addWay_1 : decode cX10_addWay 1 = .ok (.getfield 15, 3) := by decide +kernel
theorem dX10_addWay_4 : decode cX10_addWay 4 = .ok (.bipush 24, 2) := by decide +kernel
theorem dX10_addWay_6 : decode cX10_addWay 6 = .ok (.if_icmp .lt 5, 3) := by decide +kernel
theorem dX10_addWay_11 : decode cX10_addWay 11 = .ok (.aload_n 0, 1) := by decide +kernel
theorem dX10_addWay_12 : decode cX10_addWay 12 = .ok (.getfield 33, 3) := by decide +kernel
theorem dX10_addWay_15 : decode cX10_addWay 15 = .ok (.aload_n 0, 1) := by decide +kernel
theorem dX10_addWay_16 : decode cX10_addWay 16 = .ok (.getfield 15, 3) := by decide +kernel
theorem dX10_addWay_19 : decode cX10_addWay 19 = .ok (.aload_n 1, 1) := by decide +kernel
theorem dX10_addWay_20 : decode cX10_addWay 20 = .ok (.aastore, 1) := by decide +kernel
theorem dX10_addWay_21 : decode cX10_addWay 21 = .ok (.aload_n 0, 1) := by decide +kernel
theorem dX10_addWay_22 : decode cX10_addWay 22 = .ok (.dup, 1) := by decide +kernel
theorem dX10_addWay_23 : decode cX10_addWay 23 = .ok (.getfield 15, 3) := by decide +kernel
theorem dX10_addWay_26 : decode cX10_addWay 26 = .ok (.iconst 1, 1) := by decide +kernel
theorem dX10_addWay_27 : decode cX10_addWay 27 = .ok (.iadd, 1) := by decide +kernel
theorem dX10_addWay_28 : decode cX10_addWay 28 = .ok (.putfield 15, 3) := by decide +kernel
theorem dX10_addWay_31 : decode cX10_addWay 31 = .ok (.aload_n 0, 1) := by decide +kernel
theorem dX10_addWay_32 : decode cX10_addWay 32 = .ok (.getfield 15, 3) := by decide +kernel
theorem dX10_addWay_35 : decode cX10_addWay 35 = .ok (.iconst 1, 1) := by decide +kernel
theorem dX10_addWay_36 : decode cX10_addWay 36 = .ok (.isub, 1) := by decide +kernel
theorem dX10_addWay_37 : decode cX10_addWay 37 = .ok (.ireturn, 1) := by decide +kernel
theorem dX10_addWay_9 : decode cX10_addWay 9 = .ok (.iconst (-1), 1) := by decide +kernel
theorem dX10_addWay_10 : decode cX10_addWay 10 = .ok (.ireturn, 1) := by decide +kernel
def D_X10_addWay (N : Nat) (h : mh_H) (l0 : Nat) (l1 : Nat) : Option (Int32 × mh_H) :=
  (gI h 10 l0 1).bind fun v1 =>
  if v1 < (24 : Int32) then ((gR h 10 l0 6).bind fun v2 =>
  (gI h 10 l0 1).bind fun v3 =>
  (uR h v2 v3 l1).bind fun h4 =>
  (gI h4 10 l0 1).bind fun v5 =>
  (pI h4 10 l0 1 (v5 + (1 : Int32))).bind fun h6 =>
  (gI h6 10 l0 1).bind fun v7 =>
  some (v7 - (1 : Int32), h6))
  else (some ((-1 : Int32), h))
set_option maxHeartbeats 4000000 in
set_option maxRecDepth 100000 in
theorem T_X10_addWay {P : mh_E → Prop} {N d : Nat} (hd : 1 ≤ d) {z : (Int32 × mh_H)} {h : mh_H} {l0 : Nat} {l1 : Nat} (hq : D_X10_addWay N h l0 l1 = some z) : mh_go P d mX10_addWay 0 [some (.ref l0), some (.ref l1)] [] h (some (.int z.1)) z.2 := by
  unfold D_X10_addWay at hq
  refine st_aload_n (pc := 0) dX10_addWay_0 rfl ?_
  refine bd_geti (pc := 1) hq dX10_addWay_1 fl_10_15_10 rfl (fun v1 hq => ?_)
  refine st_bipush (pc := 4) (v := (24 : Int32)) dX10_addWay_4 (by decide) ?_
  refine bd_icmp_lt (pc := 6) (tgt := 11) hq dX10_addWay_6 (by decide) (fun _ hq => ?_) (fun _ hq => ?_)
  ·
    refine st_aload_n (pc := 11) dX10_addWay_11 rfl ?_
    refine bd_getr (pc := 12) hq dX10_addWay_12 fl_10_33_10 rfl (fun v2 hq => ?_)
    refine st_aload_n (pc := 15) dX10_addWay_15 rfl ?_
    refine bd_geti (pc := 16) hq dX10_addWay_16 fl_10_15_10 rfl (fun v3 hq => ?_)
    refine st_aload_n (pc := 19) dX10_addWay_19 rfl ?_
    refine bd_aast (pc := 20) hq dX10_addWay_20 (fun h4 hq => ?_)
    refine st_aload_n (pc := 21) dX10_addWay_21 rfl ?_
    refine st_dup (pc := 22) dX10_addWay_22 rfl ?_
    refine bd_geti (pc := 23) hq dX10_addWay_23 fl_10_15_10 rfl (fun v5 hq => ?_)
    refine st_iconst (pc := 26) (v := (1 : Int32)) dX10_addWay_26 rfl ?_
    refine st_iadd (pc := 27) dX10_addWay_27 ?_
    refine bd_puti (pc := 28) hq dX10_addWay_28 fl_10_15_10 (Or.inl rfl) rfl (fun h6 hq => ?_)
    refine st_aload_n (pc := 31) dX10_addWay_31 rfl ?_
    refine bd_geti (pc := 32) hq dX10_addWay_32 fl_10_15_10 rfl (fun v7 hq => ?_)
    refine st_iconst (pc := 35) (v := (1 : Int32)) dX10_addWay_35 rfl ?_
    refine st_isub (pc := 36) dX10_addWay_36 ?_
    exact bd_iret (pc := 37) hq dX10_addWay_37 rfl
  ·
    refine st_iconst (pc := 9) (v := (-1 : Int32)) dX10_addWay_9 rfl ?_
    exact bd_iret (pc := 10) hq dX10_addWay_10 rfl
-- HoleWater$World.isOf(II)Z
theorem dX10_isOf_0 : decode cX10_isOf 0 = .ok (.aload_n 0, 1) := by decide +kernel
theorem dX10_isOf_1 : decode cX10_isOf 1 = .ok (.iload_n 1, 1) := by decide +kernel
theorem dX10_isOf_2 : decode cX10_isOf 2 = .ok (.invokevirtual 88, 3) := by decide +kernel
theorem dX10_isOf_5 : decode cX10_isOf 5 = .ok (.ifCond .eq 17, 3) := by decide +kernel
theorem dX10_isOf_22 : decode cX10_isOf 22 = .ok (.iconst 0, 1) := by decide +kernel
theorem dX10_isOf_23 : decode cX10_isOf 23 = .ok (.ireturn, 1) := by decide +kernel
theorem dX10_isOf_8 : decode cX10_isOf 8 = .ok (.aload_n 0, 1) := by decide +kernel
theorem dX10_isOf_9 : decode cX10_isOf 9 = .ok (.getfield 21, 3) := by decide +kernel
theorem dX10_isOf_12 : decode cX10_isOf 12 = .ok (.iload_n 1, 1) := by decide +kernel
theorem dX10_isOf_13 : decode cX10_isOf 13 = .ok (.iaload, 1) := by decide +kernel
theorem dX10_isOf_14 : decode cX10_isOf 14 = .ok (.iload_n 2, 1) := by decide +kernel
theorem dX10_isOf_15 : decode cX10_isOf 15 = .ok (.if_icmp .ne 7, 3) := by decide +kernel
theorem dX10_isOf_18 : decode cX10_isOf 18 = .ok (.iconst 1, 1) := by decide +kernel
theorem dX10_isOf_19 : decode cX10_isOf 19 = .ok (.goto 4, 3) := by decide +kernel
def D_X10_isOf (N : Nat) (h : mh_H) (l0 : Nat) (l1 : Int32) (l2 : Int32) : Option (Int32 × mh_H) :=
  kO h 10 l0 <|
  (D_X10_isJoint N h l0 l1).bind fun q1 =>
  if q1.1 = 0 then (zB (0 : Int32) q1.2)
  else ((gR q1.2 10 l0 3).bind fun v2 =>
  (aI q1.2 v2 l1).bind fun v3 =>
  if v3 = l2 then (zB (1 : Int32) q1.2)
  else (zB (0 : Int32) q1.2))
set_option maxHeartbeats 4000000 in
set_option maxRecDepth 100000 in
theorem T_X10_isOf {P : mh_E → Prop} {N d : Nat} (hd : 2 ≤ d) {z : (Int32 × mh_H)} {h : mh_H} {l0 : Nat} {l1 : Int32} {l2 : Int32} (hq : D_X10_isOf N h l0 l1 l2 = some z) : mh_go P d mX10_isOf 0 [some (.ref l0), some (.int l1), some (.int l2)] [] h (some (.int z.1)) z.2 := by
  unfold D_X10_isOf at hq
  refine st_aload_n (pc := 0) dX10_isOf_0 rfl ?_
  refine st_iload_n (pc := 1) dX10_isOf_1 rfl ?_
  obtain ⟨⟨hbq1, hkq1⟩, hq⟩ := mh_oi hq
  obtain ⟨q1, e1, hq⟩ := mh_ob hq
  refine st_invV (pc := 2) (ci := 10) (vs := [.int l1]) (rest := []) (st2 := [.int q1.1]) dX10_isOf_2 okX10_isJoint (by decide) hkq1 hbq1 wd_358 wd_340 wd_341 pdX10_isJoint rfl rfl rfl rfl (Nat.le_trans (by decide) hd) (Nat.le_of_ble_eq_true rfl) (T_X10_isJoint (Nat.le_refl _) e1) rfl ?_
  refine bd_if_eq (pc := 5) (tgt := 22) hq dX10_isOf_5 (by decide) (fun _ hq => ?_) (fun _ hq => ?_)
  ·
    refine st_iconst (pc := 22) (v := (0 : Int32)) dX10_isOf_22 rfl ?_
    exact bd_zret (pc := 23) hq dX10_isOf_23 rfl
  ·
    refine st_aload_n (pc := 8) dX10_isOf_8 rfl ?_
    refine bd_getr (pc := 9) hq dX10_isOf_9 fl_10_21_10 rfl (fun v2 hq => ?_)
    refine st_iload_n (pc := 12) dX10_isOf_12 rfl ?_
    refine bd_iald (pc := 13) hq dX10_isOf_13 (fun v3 hq => ?_)
    refine st_iload_n (pc := 14) dX10_isOf_14 rfl ?_
    refine bd_icmp_ne (pc := 15) (tgt := 22) hq dX10_isOf_15 (by decide) (fun _ hq => ?_) (fun _ hq => ?_)
    ·
      refine st_iconst (pc := 18) (v := (1 : Int32)) dX10_isOf_18 rfl ?_
      refine st_goto (pc := 19) (tgt := 23) dX10_isOf_19 (by decide) ?_
      exact bd_zret (pc := 23) hq dX10_isOf_23 rfl
    ·
      refine st_iconst (pc := 22) (v := (0 : Int32)) dX10_isOf_22 rfl ?_
      exact bd_zret (pc := 23) hq dX10_isOf_23 rfl
-- HoleWater$World.isOutlet(I)Z
theorem dX10_isOutlet_18 : decode cX10_isOutlet 18 = .ok (.iconst 1, 1) := by decide +kernel
theorem dX10_isOutlet_19 : decode cX10_isOutlet 19 = .ok (.goto 4, 3) := by decide +kernel
theorem dX10_isOutlet_23 : decode cX10_isOutlet 23 = .ok (.ireturn, 1) := by decide +kernel
theorem dX10_isOutlet_0 : decode cX10_isOutlet 0 = .ok (.aload_n 0, 1) := by decide +kernel
theorem dX10_isOutlet_1 : decode cX10_isOutlet 1 = .ok (.iload_n 1, 1) := by decide +kernel
theorem dX10_isOutlet_2 : decode cX10_isOutlet 2 = .ok (.iconst 2, 1) := by decide +kernel
theorem dX10_isOutlet_3 : decode cX10_isOutlet 3 = .ok (.invokevirtual 92, 3) := by decide +kernel
theorem dX10_isOutlet_6 : decode cX10_isOutlet 6 = .ok (.ifCond .ne 12, 3) := by decide +kernel
theorem dX10_isOutlet_9 : decode cX10_isOutlet 9 = .ok (.aload_n 0, 1) := by decide +kernel
theorem dX10_isOutlet_10 : decode cX10_isOutlet 10 = .ok (.iload_n 1, 1) := by decide +kernel
theorem dX10_isOutlet_11 : decode cX10_isOutlet 11 = .ok (.iconst 3, 1) := by decide +kernel
theorem dX10_isOutlet_12 : decode cX10_isOutlet 12 = .ok (.invokevirtual 92, 3) := by decide +kernel
theorem dX10_isOutlet_15 : decode cX10_isOutlet 15 = .ok (.ifCond .eq 7, 3) := by decide +kernel
theorem dX10_isOutlet_22 : decode cX10_isOutlet 22 = .ok (.iconst 0, 1) := by decide +kernel
def D_X10_isOutlet_18 (N : Nat) (h : mh_H) : Option (Int32 × mh_H) :=
  zB (1 : Int32) h
set_option maxHeartbeats 4000000 in
set_option maxRecDepth 100000 in
theorem T_X10_isOutlet_18 {P : mh_E → Prop} {N d : Nat} (hd : 3 ≤ d) {z : (Int32 × mh_H)} {h : mh_H} (hq : D_X10_isOutlet_18 N h = some z) : mh_go P d mX10_isOutlet 18 [none, none] [] h (some (.int z.1)) z.2 := by
  unfold D_X10_isOutlet_18 at hq
  refine st_iconst (pc := 18) (v := (1 : Int32)) dX10_isOutlet_18 rfl ?_
  refine st_goto (pc := 19) (tgt := 23) dX10_isOutlet_19 (by decide) ?_
  exact bd_zret (pc := 23) hq dX10_isOutlet_23 rfl
def D_X10_isOutlet (N : Nat) (h : mh_H) (l0 : Nat) (l1 : Int32) : Option (Int32 × mh_H) :=
  kO h 10 l0 <|
  (D_X10_isOf N h l0 l1 (2 : Int32)).bind fun q1 =>
  if q1.1 = 0 then (kO q1.2 10 l0 <|
  (D_X10_isOf N q1.2 l0 l1 (3 : Int32)).bind fun q2 =>
  if q2.1 = 0 then (zB (0 : Int32) q2.2)
  else (D_X10_isOutlet_18 N q2.2))
  else (D_X10_isOutlet_18 N q1.2)
set_option maxHeartbeats 4000000 in
set_option maxRecDepth 100000 in
theorem T_X10_isOutlet {P : mh_E → Prop} {N d : Nat} (hd : 3 ≤ d) {z : (Int32 × mh_H)} {h : mh_H} {l0 : Nat} {l1 : Int32} (hq : D_X10_isOutlet N h l0 l1 = some z) : mh_go P d mX10_isOutlet 0 [some (.ref l0), some (.int l1)] [] h (some (.int z.1)) z.2 := by
  unfold D_X10_isOutlet at hq
  refine st_aload_n (pc := 0) dX10_isOutlet_0 rfl ?_
  refine st_iload_n (pc := 1) dX10_isOutlet_1 rfl ?_
  refine st_iconst (pc := 2) (v := (2 : Int32)) dX10_isOutlet_2 rfl ?_
  obtain ⟨⟨hbq1, hkq1⟩, hq⟩ := mh_oi hq
  obtain ⟨q1, e1, hq⟩ := mh_ob hq
  refine st_invV (pc := 3) (ci := 10) (vs := [.int l1, .int (2 : Int32)]) (rest := []) (st2 := [.int q1.1]) dX10_isOutlet_3 okX10_isOf (by decide) hkq1 hbq1 wd_354 wd_355 wd_356 pdX10_isOf rfl rfl rfl rfl (Nat.le_trans (by decide) hd) (Nat.le_of_ble_eq_true rfl) (T_X10_isOf (Nat.le_refl _) e1) rfl ?_
  refine bd_if_ne (pc := 6) (tgt := 18) hq dX10_isOutlet_6 (by decide) (fun _ hq => ?_) (fun _ hq => ?_)
  ·
    refine st_aload_n (pc := 9) dX10_isOutlet_9 rfl ?_
    refine st_iload_n (pc := 10) dX10_isOutlet_10 rfl ?_
    refine st_iconst (pc := 11) (v := (3 : Int32)) dX10_isOutlet_11 rfl ?_
    obtain ⟨⟨hbq2, hkq2⟩, hq⟩ := mh_oi hq
    obtain ⟨q2, e2, hq⟩ := mh_ob hq
    refine st_invV (pc := 12) (ci := 10) (vs := [.int l1, .int (3 : Int32)]) (rest := []) (st2 := [.int q2.1]) dX10_isOutlet_12 okX10_isOf (by decide) hkq2 hbq2 wd_354 wd_355 wd_356 pdX10_isOf rfl rfl rfl rfl (Nat.le_trans (by decide) hd) (Nat.le_of_ble_eq_true rfl) (T_X10_isOf (Nat.le_refl _) e2) rfl ?_
    refine bd_if_eq (pc := 15) (tgt := 22) hq dX10_isOutlet_15 (by decide) (fun _ hq => ?_) (fun _ hq => ?_)
    ·
      refine st_iconst (pc := 22) (v := (0 : Int32)) dX10_isOutlet_22 rfl ?_
      exact bd_zret (pc := 23) hq dX10_isOutlet_23 rfl
    ·
      refine st_lesS (lv' := [none, none]) ⟨Or.inl rfl, Or.inl rfl, trivial⟩ ?_
      exact T_X10_isOutlet_18 hd hq
  ·
    refine st_lesS (lv' := [none, none]) ⟨Or.inl rfl, Or.inl rfl, trivial⟩ ?_
    exact T_X10_isOutlet_18 hd hq
-- HoleWater.way(IIII)I
theorem dX11_way_62 : decode cX11_way 62 = .ok (.aload_n 0, 1) := by decide +kernel
theorem dX11_way_63 : decode cX11_way 63 = .ok (.iconst 1, 1) := by decide +kernel
theorem dX11_way_64 : decode cX11_way 64 = .ok (.invokevirtual 66, 3) := by decide +kernel
theorem dX11_way_67 : decode cX11_way 67 = .ok (.ireturn, 1) := by decide +kernel
theorem dX11_way_105 : decode cX11_way 105 = .ok (.aload_n 0, 1) := by decide +kernel
theorem dX11_way_106 : decode cX11_way 106 = .ok (.iconst 5, 1) := by decide +kernel
theorem dX11_way_107 : decode cX11_way 107 = .ok (.invokevirtual 66, 3) := by decide +kernel
theorem dX11_way_110 : decode cX11_way 110 = .ok (.ireturn, 1) := by decide +kernel
theorem dX11_way_0 : decode cX11_way 0 = .ok (.iload_n 1, 1) := by decide +kernel
theorem dX11_way_1 : decode cX11_way 1 = .ok (.iconst 0, 1) := by decide +kernel
theorem dX11_way_2 : decode cX11_way 2 = .ok (.iconst 5, 1) := by decide +kernel
theorem dX11_way_3 : decode cX11_way 3 = .ok (.invokestatic 62, 3) := by decide +kernel
theorem dX11_way_6 : decode cX11_way 6 = .ok (.ifCond .eq 56, 3) := by decide +kernel
theorem dX11_way_9 : decode cX11_way 9 = .ok (.iload_n 2, 1) := by decide +kernel
theorem dX11_way_10 : decode cX11_way 10 = .ok (.ifCond .lt 52, 3) := by decide +kernel
theorem dX11_way_13 : decode cX11_way 13 = .ok (.aload_n 0, 1) := by decide +kernel
theorem dX11_way_14 : decode cX11_way 14 = .ok (.getfield 12, 3) := by decide +kernel
theorem dX11_way_17 : decode cX11_way 17 = .ok (.iload_n 2, 1) := by decide +kernel
theorem dX11_way_18 : decode cX11_way 18 = .ok (.bipush 100, 2) := by decide +kernel
theorem dX11_way_20 : decode cX11_way 20 = .ok (.idiv, 1) := by decide +kernel
theorem dX11_way_21 : decode cX11_way 21 = .ok (.invokevirtual 77, 3) := by decide +kernel
theorem dX11_way_24 : decode cX11_way 24 = .ok (.ifCond .eq 38, 3) := by decide +kernel
theorem dX11_way_27 : decode cX11_way 27 = .ok (.aload_n 0, 1) := by decide +kernel
theorem dX11_way_28 : decode cX11_way 28 = .ok (.getfield 12, 3) := by decide +kernel
theorem dX11_way_31 : decode cX11_way 31 = .ok (.iload_n 2, 1) := by decide +kernel
theorem dX11_way_32 : decode cX11_way 32 = .ok (.bipush 100, 2) := by decide +kernel
theorem dX11_way_34 : decode cX11_way 34 = .ok (.irem, 1) := by decide +kernel
theorem dX11_way_35 : decode cX11_way 35 = .ok (.invokevirtual 77, 3) := by decide +kernel
theorem dX11_way_38 : decode cX11_way 38 = .ok (.ifCond .eq 24, 3) := by decide +kernel
theorem dX11_way_41 : decode cX11_way 41 = .ok (.iload_n 3, 1) := by decide +kernel
theorem dX11_way_42 : decode cX11_way 42 = .ok (.iconst 1, 1) := by decide +kernel
theorem dX11_way_43 : decode cX11_way 43 = .ok (.bipush 20, 2) := by decide +kernel
theorem dX11_way_45 : decode cX11_way 45 = .ok (.invokestatic 62, 3) := by decide +kernel
theorem dX11_way_48 : decode cX11_way 48 = .ok (.ifCond .eq 14, 3) := by decide +kernel
theorem dX11_way_51 : decode cX11_way 51 = .ok (.iload 4, 2) := by decide +kernel
theorem dX11_way_53 : decode cX11_way 53 = .ok (.iconst 1, 1) := by decide +kernel
theorem dX11_way_54 : decode cX11_way 54 = .ok (.bipush 99, 2) := by decide +kernel
theorem dX11_way_56 : decode cX11_way 56 = .ok (.invokestatic 62, 3) := by decide +kernel
theorem dX11_way_59 : decode cX11_way 59 = .ok (.ifCond .ne 9, 3) := by decide +kernel
theorem dX11_way_68 : decode cX11_way 68 = .ok (.iload_n 2, 1) := by decide +kernel
theorem dX11_way_69 : decode cX11_way 69 = .ok (.bipush 100, 2) := by decide +kernel
theorem dX11_way_71 : decode cX11_way 71 = .ok (.idiv, 1) := by decide +kernel
theorem dX11_way_72 : decode cX11_way 72 = .ok (.istore 5, 2) := by decide +kernel
theorem dX11_way_74 : decode cX11_way 74 = .ok (.iload_n 2, 1) := by decide +kernel
theorem dX11_way_75 : decode cX11_way 75 = .ok (.bipush 100, 2) := by decide +kernel
theorem dX11_way_77 : decode cX11_way 77 = .ok (.irem, 1) := by decide +kernel
theorem dX11_way_78 : decode cX11_way 78 = .ok (.istore 6, 2) := by decide +kernel
theorem dX11_way_80 : decode cX11_way 80 = .ok (.aload_n 0, 1) := by decide +kernel
theorem dX11_way_81 : decode cX11_way 81 = .ok (.getfield 12, 3) := by decide +kernel
theorem dX11_way_84 : decode cX11_way 84 = .ok (.iload 5, 2) := by decide +kernel
theorem dX11_way_86 : decode cX11_way 86 = .ok (.invokevirtual 109, 3) := by decide +kernel
theorem dX11_way_89 : decode cX11_way 89 = .ok (.ifCond .ne 16, 3) := by decide +kernel
theorem dX11_way_92 : decode cX11_way 92 = .ok (.aload_n 0, 1) := by decide +kernel
theorem dX11_way_93 : decode cX11_way 93 = .ok (.getfield 12, 3) := by decide +kernel
theorem dX11_way_96 : decode cX11_way 96 = .ok (.iload 6, 2) := by decide +kernel
theorem dX11_way_98 : decode cX11_way 98 = .ok (.iconst 0, 1) := by decide +kernel
theorem dX11_way_99 : decode cX11_way 99 = .ok (.invokevirtual 112, 3) := by decide +kernel
theorem dX11_way_102 : decode cX11_way 102 = .ok (.ifCond .eq 9, 3) := by decide +kernel
theorem dX11_way_111 : decode cX11_way 111 = .ok (.aload_n 0, 1) := by decide +kernel
theorem dX11_way_112 : decode cX11_way 112 = .ok (.getfield 12, 3) := by decide +kernel
theorem dX11_way_115 : decode cX11_way 115 = .ok (.getfield 87, 3) := by decide +kernel
theorem dX11_way_118 : decode cX11_way 118 = .ok (.iload 6, 2) := by decide +kernel
theorem dX11_way_120 : decode cX11_way 120 = .ok (.iaload, 1) := by decide +kernel
theorem dX11_way_121 : decode cX11_way 121 = .ok (.aload_n 0, 1) := by decide +kernel
theorem dX11_way_122 : decode cX11_way 122 = .ok (.getfield 12, 3) := by decide +kernel
theorem dX11_way_125 : decode cX11_way 125 = .ok (.getfield 87, 3) := by decide +kernel
theorem dX11_way_128 : decode cX11_way 128 = .ok (.iload 5, 2) := by decide +kernel
theorem dX11_way_130 : decode cX11_way 130 = .ok (.iaload, 1) := by decide +kernel
theorem dX11_way_131 : decode cX11_way 131 = .ok (.if_icmp .lt 9, 3) := by decide +kernel
theorem dX11_way_140 : decode cX11_way 140 = .ok (.aload_n 0, 1) := by decide +kernel
theorem dX11_way_141 : decode cX11_way 141 = .ok (.getfield 12, 3) := by decide +kernel
theorem dX11_way_144 : decode cX11_way 144 = .ok (.getfield 116, 3) := by decide +kernel
theorem dX11_way_147 : decode cX11_way 147 = .ok (.bipush 24, 2) := by decide +kernel
theorem dX11_way_149 : decode cX11_way 149 = .ok (.if_icmp .lt 9, 3) := by decide +kernel
theorem dX11_way_158 : decode cX11_way 158 = .ok (.aload_n 0, 1) := by decide +kernel
theorem dX11_way_159 : decode cX11_way 159 = .ok (.getfield 12, 3) := by decide +kernel
theorem dX11_way_162 : decode cX11_way 162 = .ok (.iload_n 1, 1) := by decide +kernel
theorem dX11_way_163 : decode cX11_way 163 = .ok (.iload 5, 2) := by decide +kernel
theorem dX11_way_165 : decode cX11_way 165 = .ok (.iload 6, 2) := by decide +kernel
theorem dX11_way_167 : decode cX11_way 167 = .ok (.iload_n 3, 1) := by decide +kernel
theorem dX11_way_168 : decode cX11_way 168 = .ok (.iload 4, 2) := by decide +kernel
theorem dX11_way_170 : decode cX11_way 170 = .ok (.invokestatic 119, 3) := by decide +kernel
theorem dX11_way_173 : decode cX11_way 173 = .ok (.invokevirtual 123, 3) := by decide +kernel
theorem dX11_way_176 : decode cX11_way 176 = .ok (.ireturn, 1) := by decide +kernel
theorem dX11_way_152 : decode cX11_way 152 = .ok (.aload_n 0, 1) := by decide +kernel
theorem dX11_way_153 : decode cX11_way 153 = .ok (.iconst 4, 1) := by decide +kernel
theorem dX11_way_154 : decode cX11_way 154 = .ok (.invokevirtual 66, 3) := by decide +kernel
theorem dX11_way_157 : decode cX11_way 157 = .ok (.ireturn, 1) := by decide +kernel
theorem dX11_way_134 : decode cX11_way 134 = .ok (.aload_n 0, 1) := by decide +kernel
theorem dX11_way_135 : decode cX11_way 135 = .ok (.iconst 3, 1) := by decide +kernel
theorem dX11_way_136 : decode cX11_way 136 = .ok (.invokevirtual 66, 3) := by decide +kernel
theorem dX11_way_139 : decode cX11_way 139 = .ok (.ireturn, 1) := by decide +kernel
def D_X11_way_62 (N : Nat) (h : mh_H) (l0 : Nat) : Option (Int32 × mh_H) :=
  kO h 11 l0 <|
  (D_X11_error N h l0 (1 : Int32)).bind fun q1 =>
  some (q1.1, q1.2)
set_option maxHeartbeats 4000000 in
set_option maxRecDepth 100000 in
theorem T_X11_way_62 {P : mh_E → Prop} {N d : Nat} (hd : 5 ≤ d) {z : (Int32 × mh_H)} {h : mh_H} {l0 : Nat} (hq : D_X11_way_62 N h l0 = some z) : mh_go P d mX11_way 62 [some (.ref l0), none, none, none, none, none, none] [] h (some (.int z.1)) z.2 := by
  unfold D_X11_way_62 at hq
  refine st_aload_n (pc := 62) dX11_way_62 rfl ?_
  refine st_iconst (pc := 63) (v := (1 : Int32)) dX11_way_63 rfl ?_
  obtain ⟨⟨hbq1, hkq1⟩, hq⟩ := mh_oi hq
  obtain ⟨q1, e1, hq⟩ := mh_ob hq
  refine st_invV (pc := 64) (ci := 11) (vs := [.int (1 : Int32)]) (rest := []) (st2 := [.int q1.1]) dX11_way_64 okX11_error (by decide) hkq1 hbq1 wd_326 wd_328 wp_0 pdX11_error rfl rfl rfl rfl (Nat.le_trans (by decide) hd) (Nat.le_of_ble_eq_true rfl) (T_X11_error (Nat.le_refl _) e1) rfl ?_
  exact bd_iret (pc := 67) hq dX11_way_67 rfl
def D_X11_way_105 (N : Nat) (h : mh_H) (l0 : Nat) : Option (Int32 × mh_H) :=
  kO h 11 l0 <|
  (D_X11_error N h l0 (5 : Int32)).bind fun q1 =>
  some (q1.1, q1.2)
set_option maxHeartbeats 4000000 in
set_option maxRecDepth 100000 in
theorem T_X11_way_105 {P : mh_E → Prop} {N d : Nat} (hd : 5 ≤ d) {z : (Int32 × mh_H)} {h : mh_H} {l0 : Nat} (hq : D_X11_way_105 N h l0 = some z) : mh_go P d mX11_way 105 [some (.ref l0), none, none, none, none, none, none] [] h (some (.int z.1)) z.2 := by
  unfold D_X11_way_105 at hq
  refine st_aload_n (pc := 105) dX11_way_105 rfl ?_
  refine st_iconst (pc := 106) (v := (5 : Int32)) dX11_way_106 rfl ?_
  obtain ⟨⟨hbq1, hkq1⟩, hq⟩ := mh_oi hq
  obtain ⟨q1, e1, hq⟩ := mh_ob hq
  refine st_invV (pc := 107) (ci := 11) (vs := [.int (5 : Int32)]) (rest := []) (st2 := [.int q1.1]) dX11_way_107 okX11_error (by decide) hkq1 hbq1 wd_326 wd_328 wp_0 pdX11_error rfl rfl rfl rfl (Nat.le_trans (by decide) hd) (Nat.le_of_ble_eq_true rfl) (T_X11_error (Nat.le_refl _) e1) rfl ?_
  exact bd_iret (pc := 110) hq dX11_way_110 rfl
def D_X11_way (N : Nat) (h : mh_H) (l0 : Nat) (l1 : Int32) (l2 : Int32) (l3 : Int32) (l4 : Int32) : Option (Int32 × mh_H) :=
  (D_X11_within N h l1 (0 : Int32) (5 : Int32)).bind fun q1 =>
  if q1.1 = 0 then (D_X11_way_62 N q1.2 l0)
  else (if l2 < 0 then (D_X11_way_62 N q1.2 l0)
  else ((gR q1.2 11 l0 0).bind fun v2 =>
  dN (100 : Int32) <|
  kO q1.2 10 v2 <|
  (D_X10_isJoint N q1.2 v2 (l2 / (100 : Int32))).bind fun q3 =>
  if q3.1 = 0 then (D_X11_way_62 N q3.2 l0)
  else ((gR q3.2 11 l0 0).bind fun v4 =>
  dN (100 : Int32) <|
  kO q3.2 10 v4 <|
  (D_X10_isJoint N q3.2 v4 (l2 - l2 / (100 : Int32) * (100 : Int32))).bind fun q5 =>
  if q5.1 = 0 then (D_X11_way_62 N q5.2 l0)
  else ((D_X11_within N q5.2 l3 (1 : Int32) (20 : Int32)).bind fun q6 =>
  if q6.1 = 0 then (D_X11_way_62 N q6.2 l0)
  else ((D_X11_within N q6.2 l4 (1 : Int32) (99 : Int32)).bind fun q7 =>
  if q7.1 = 0 then (D_X11_way_62 N q7.2 l0)
  else (dN (100 : Int32) <|
  dN (100 : Int32) <|
  (gR q7.2 11 l0 0).bind fun v8 =>
  kO q7.2 10 v8 <|
  (D_X10_isOutlet N q7.2 v8 (l2 / (100 : Int32))).bind fun q9 =>
  if q9.1 = 0 then ((gR q9.2 11 l0 0).bind fun v10 =>
  kO q9.2 10 v10 <|
  (D_X10_isOf N q9.2 v10 (l2 - l2 / (100 : Int32) * (100 : Int32)) (0 : Int32)).bind fun q11 =>
  if q11.1 = 0 then ((gR q11.2 11 l0 0).bind fun v12 =>
  (gR q11.2 10 v12 5).bind fun v13 =>
  (aI q11.2 v13 (l2 - l2 / (100 : Int32) * (100 : Int32))).bind fun v14 =>
  (gR q11.2 11 l0 0).bind fun v15 =>
  (gR q11.2 10 v15 5).bind fun v16 =>
  (aI q11.2 v16 (l2 / (100 : Int32))).bind fun v17 =>
  if v14 < v17 then ((gR q11.2 11 l0 0).bind fun v18 =>
  (gI q11.2 10 v18 1).bind fun v19 =>
  if v19 < (24 : Int32) then ((gR q11.2 11 l0 0).bind fun v20 =>
  (D_X11_makeWay N q11.2 l1 (l2 / (100 : Int32)) (l2 - l2 / (100 : Int32) * (100 : Int32)) l3 l4).bind fun q21 =>
  kO q21.2 10 v20 <|
  (D_X10_addWay N q21.2 v20 q21.1).bind fun q22 =>
  some (q22.1, q22.2))
  else (kO q11.2 11 l0 <|
  (D_X11_error N q11.2 l0 (4 : Int32)).bind fun q20 =>
  some (q20.1, q20.2)))
  else (kO q11.2 11 l0 <|
  (D_X11_error N q11.2 l0 (3 : Int32)).bind fun q18 =>
  some (q18.1, q18.2)))
  else (D_X11_way_105 N q11.2 l0))
  else (D_X11_way_105 N q9.2 l0)))))))
set_option maxHeartbeats 4000000 in
set_option maxRecDepth 100000 in
theorem T_X11_way {P : mh_E → Prop} {N d : Nat} (hd : 5 ≤ d) {z : (Int32 × mh_H)} {h : mh_H} {l0 : Nat} {l1 : Int32} {l2 : Int32} {l3 : Int32} {l4 : Int32} (hq : D_X11_way N h l0 l1 l2 l3 l4 = some z) : mh_go P d mX11_way 0 [some (.ref l0), some (.int l1), some (.int l2), some (.int l3), some (.int l4), none, none] [] h (some (.int z.1)) z.2 := by
  unfold D_X11_way at hq
  refine st_iload_n (pc := 0) dX11_way_0 rfl ?_
  refine st_iconst (pc := 1) (v := (0 : Int32)) dX11_way_1 rfl ?_
  refine st_iconst (pc := 2) (v := (5 : Int32)) dX11_way_2 rfl ?_
  obtain ⟨q1, e1, hq⟩ := mh_ob hq
  refine st_invS (pc := 3) (Y := mX11_within) (vs := [.int l1, .int (0 : Int32), .int (5 : Int32)]) (rest := []) (st2 := [.int q1.1]) dX11_way_3 okX11_within wd_323 wd_324 pdX11_within rfl rfl rfl rfl (Nat.le_trans (by decide) hd) (Nat.le_of_ble_eq_true rfl) (T_X11_within (Nat.le_refl _) e1) rfl ?_
  refine bd_if_eq (pc := 6) (tgt := 62) hq dX11_way_6 (by decide) (fun _ hq => ?_) (fun _ hq => ?_)
  ·
    refine st_lesS (lv' := [some (.ref l0), none, none, none, none, none, none]) ⟨Or.inr rfl, Or.inl rfl, Or.inl rfl, Or.inl rfl, Or.inl rfl, Or.inr rfl, Or.inr rfl, trivial⟩ ?_
    exact T_X11_way_62 hd hq
  ·
    refine st_iload_n (pc := 9) dX11_way_9 rfl ?_
    refine bd_if_lt (pc := 10) (tgt := 62) hq dX11_way_10 (by decide) (fun _ hq => ?_) (fun _ hq => ?_)
    ·
      refine st_lesS (lv' := [some (.ref l0), none, none, none, none, none, none]) ⟨Or.inr rfl, Or.inl rfl, Or.inl rfl, Or.inl rfl, Or.inl rfl, Or.inr rfl, Or.inr rfl, trivial⟩ ?_
      exact T_X11_way_62 hd hq
    ·
      refine st_aload_n (pc := 13) dX11_way_13 rfl ?_
      refine bd_getr (pc := 14) hq dX11_way_14 fl_11_12_11 rfl (fun v2 hq => ?_)
      refine st_iload_n (pc := 17) dX11_way_17 rfl ?_
      refine st_bipush (pc := 18) (v := (100 : Int32)) dX11_way_18 (by decide) ?_
      refine bd_idiv (pc := 20) hq dX11_way_20 (fun hq => ?_)
      obtain ⟨⟨hbq3, hkq3⟩, hq⟩ := mh_oi hq
      obtain ⟨q3, e3, hq⟩ := mh_ob hq
      refine st_invV (pc := 21) (ci := 10) (vs := [.int (l2 / (100 : Int32))]) (rest := []) (st2 := [.int q3.1]) dX11_way_21 okX10_isJoint (by decide) hkq3 hbq3 wd_339 wd_340 wd_341 pdX10_isJoint rfl rfl rfl rfl (Nat.le_trans (by decide) hd) (Nat.le_of_ble_eq_true rfl) (T_X10_isJoint (Nat.le_refl _) e3) rfl ?_
      refine bd_if_eq (pc := 24) (tgt := 62) hq dX11_way_24 (by decide) (fun _ hq => ?_) (fun _ hq => ?_)
      ·
        refine st_lesS (lv' := [some (.ref l0), none, none, none, none, none, none]) ⟨Or.inr rfl, Or.inl rfl, Or.inl rfl, Or.inl rfl, Or.inl rfl, Or.inr rfl, Or.inr rfl, trivial⟩ ?_
        exact T_X11_way_62 hd hq
      ·
        refine st_aload_n (pc := 27) dX11_way_27 rfl ?_
        refine bd_getr (pc := 28) hq dX11_way_28 fl_11_12_11 rfl (fun v4 hq => ?_)
        refine st_iload_n (pc := 31) dX11_way_31 rfl ?_
        refine st_bipush (pc := 32) (v := (100 : Int32)) dX11_way_32 (by decide) ?_
        refine bd_irem (pc := 34) hq dX11_way_34 (fun hq => ?_)
        obtain ⟨⟨hbq5, hkq5⟩, hq⟩ := mh_oi hq
        obtain ⟨q5, e5, hq⟩ := mh_ob hq
        refine st_invV (pc := 35) (ci := 10) (vs := [.int (l2 - l2 / (100 : Int32) * (100 : Int32))]) (rest := []) (st2 := [.int q5.1]) dX11_way_35 okX10_isJoint (by decide) hkq5 hbq5 wd_339 wd_340 wd_341 pdX10_isJoint rfl rfl rfl rfl (Nat.le_trans (by decide) hd) (Nat.le_of_ble_eq_true rfl) (T_X10_isJoint (Nat.le_refl _) e5) rfl ?_
        refine bd_if_eq (pc := 38) (tgt := 62) hq dX11_way_38 (by decide) (fun _ hq => ?_) (fun _ hq => ?_)
        ·
          refine st_lesS (lv' := [some (.ref l0), none, none, none, none, none, none]) ⟨Or.inr rfl, Or.inl rfl, Or.inl rfl, Or.inl rfl, Or.inl rfl, Or.inr rfl, Or.inr rfl, trivial⟩ ?_
          exact T_X11_way_62 hd hq
        ·
          refine st_iload_n (pc := 41) dX11_way_41 rfl ?_
          refine st_iconst (pc := 42) (v := (1 : Int32)) dX11_way_42 rfl ?_
          refine st_bipush (pc := 43) (v := (20 : Int32)) dX11_way_43 (by decide) ?_
          obtain ⟨q6, e6, hq⟩ := mh_ob hq
          refine st_invS (pc := 45) (Y := mX11_within) (vs := [.int l3, .int (1 : Int32), .int (20 : Int32)]) (rest := []) (st2 := [.int q6.1]) dX11_way_45 okX11_within wd_323 wd_324 pdX11_within rfl rfl rfl rfl (Nat.le_trans (by decide) hd) (Nat.le_of_ble_eq_true rfl) (T_X11_within (Nat.le_refl _) e6) rfl ?_
          refine bd_if_eq (pc := 48) (tgt := 62) hq dX11_way_48 (by decide) (fun _ hq => ?_) (fun _ hq => ?_)
          ·
            refine st_lesS (lv' := [some (.ref l0), none, none, none, none, none, none]) ⟨Or.inr rfl, Or.inl rfl, Or.inl rfl, Or.inl rfl, Or.inl rfl, Or.inr rfl, Or.inr rfl, trivial⟩ ?_
            exact T_X11_way_62 hd hq
          ·
            refine st_iload (pc := 51) dX11_way_51 rfl ?_
            refine st_iconst (pc := 53) (v := (1 : Int32)) dX11_way_53 rfl ?_
            refine st_bipush (pc := 54) (v := (99 : Int32)) dX11_way_54 (by decide) ?_
            obtain ⟨q7, e7, hq⟩ := mh_ob hq
            refine st_invS (pc := 56) (Y := mX11_within) (vs := [.int l4, .int (1 : Int32), .int (99 : Int32)]) (rest := []) (st2 := [.int q7.1]) dX11_way_56 okX11_within wd_323 wd_324 pdX11_within rfl rfl rfl rfl (Nat.le_trans (by decide) hd) (Nat.le_of_ble_eq_true rfl) (T_X11_within (Nat.le_refl _) e7) rfl ?_
            refine bd_if_ne (pc := 59) (tgt := 68) hq dX11_way_59 (by decide) (fun _ hq => ?_) (fun _ hq => ?_)
            ·
              refine st_lesS (lv' := [some (.ref l0), none, none, none, none, none, none]) ⟨Or.inr rfl, Or.inl rfl, Or.inl rfl, Or.inl rfl, Or.inl rfl, Or.inr rfl, Or.inr rfl, trivial⟩ ?_
              exact T_X11_way_62 hd hq
            ·
              refine st_iload_n (pc := 68) dX11_way_68 rfl ?_
              refine st_bipush (pc := 69) (v := (100 : Int32)) dX11_way_69 (by decide) ?_
              refine bd_idiv (pc := 71) hq dX11_way_71 (fun hq => ?_)
              refine st_istore (pc := 72) (lv' := [some (.ref l0), some (.int l1), some (.int l2), some (.int l3), some (.int l4), some (.int (l2 / (100 : Int32))), none]) dX11_way_72 rfl (by decide) rfl ?_
              refine st_iload_n (pc := 74) dX11_way_74 rfl ?_
              refine st_bipush (pc := 75) (v := (100 : Int32)) dX11_way_75 (by decide) ?_
              refine bd_irem (pc := 77) hq dX11_way_77 (fun hq => ?_)
              refine st_istore (pc := 78) (lv' := [some (.ref l0), some (.int l1), some (.int l2), some (.int l3), some (.int l4), some (.int (l2 / (100 : Int32))), some (.int (l2 - l2 / (100 : Int32) * (100 : Int32)))]) dX11_way_78 rfl (by decide) rfl ?_
              refine st_aload_n (pc := 80) dX11_way_80 rfl ?_
              refine bd_getr (pc := 81) hq dX11_way_81 fl_11_12_11 rfl (fun v8 hq => ?_)
              refine st_iload (pc := 84) dX11_way_84 rfl ?_
              obtain ⟨⟨hbq9, hkq9⟩, hq⟩ := mh_oi hq
              obtain ⟨q9, e9, hq⟩ := mh_ob hq
              refine st_invV (pc := 86) (ci := 10) (vs := [.int (l2 / (100 : Int32))]) (rest := []) (st2 := [.int q9.1]) dX11_way_86 okX10_isOutlet (by decide) hkq9 hbq9 wd_350 wd_351 wd_352 pdX10_isOutlet rfl rfl rfl rfl (Nat.le_trans (by decide) hd) (Nat.le_of_ble_eq_true rfl) (T_X10_isOutlet (Nat.le_refl _) e9) rfl ?_
              refine bd_if_ne (pc := 89) (tgt := 105) hq dX11_way_89 (by decide) (fun _ hq => ?_) (fun _ hq => ?_)
              ·
                refine st_aload_n (pc := 92) dX11_way_92 rfl ?_
                refine bd_getr (pc := 93) hq dX11_way_93 fl_11_12_11 rfl (fun v10 hq => ?_)
                refine st_iload (pc := 96) dX11_way_96 rfl ?_
                refine st_iconst (pc := 98) (v := (0 : Int32)) dX11_way_98 rfl ?_
                obtain ⟨⟨hbq11, hkq11⟩, hq⟩ := mh_oi hq
                obtain ⟨q11, e11, hq⟩ := mh_ob hq
                refine st_invV (pc := 99) (ci := 10) (vs := [.int (l2 - l2 / (100 : Int32) * (100 : Int32)), .int (0 : Int32)]) (rest := []) (st2 := [.int q11.1]) dX11_way_99 okX10_isOf (by decide) hkq11 hbq11 wd_359 wd_355 wd_356 pdX10_isOf rfl rfl rfl rfl (Nat.le_trans (by decide) hd) (Nat.le_of_ble_eq_true rfl) (T_X10_isOf (Nat.le_refl _) e11) rfl ?_
                refine bd_if_eq (pc := 102) (tgt := 111) hq dX11_way_102 (by decide) (fun _ hq => ?_) (fun _ hq => ?_)
                ·
                  refine st_aload_n (pc := 111) dX11_way_111 rfl ?_
                  refine bd_getr (pc := 112) hq dX11_way_112 fl_11_12_11 rfl (fun v12 hq => ?_)
                  refine bd_getr (pc := 115) hq dX11_way_115 fl_11_87_10 rfl (fun v13 hq => ?_)
                  refine st_iload (pc := 118) dX11_way_118 rfl ?_
                  refine bd_iald (pc := 120) hq dX11_way_120 (fun v14 hq => ?_)
                  refine st_aload_n (pc := 121) dX11_way_121 rfl ?_
                  refine bd_getr (pc := 122) hq dX11_way_122 fl_11_12_11 rfl (fun v15 hq => ?_)
                  refine bd_getr (pc := 125) hq dX11_way_125 fl_11_87_10 rfl (fun v16 hq => ?_)
                  refine st_iload (pc := 128) dX11_way_128 rfl ?_
                  refine bd_iald (pc := 130) hq dX11_way_130 (fun v17 hq => ?_)
                  refine bd_icmp_lt (pc := 131) (tgt := 140) hq dX11_way_131 (by decide) (fun _ hq => ?_) (fun _ hq => ?_)
                  ·
                    refine st_aload_n (pc := 140) dX11_way_140 rfl ?_
                    refine bd_getr (pc := 141) hq dX11_way_141 fl_11_12_11 rfl (fun v18 hq => ?_)
                    refine bd_geti (pc := 144) hq dX11_way_144 fl_11_116_10 rfl (fun v19 hq => ?_)
                    refine st_bipush (pc := 147) (v := (24 : Int32)) dX11_way_147 (by decide) ?_
                    refine bd_icmp_lt (pc := 149) (tgt := 158) hq dX11_way_149 (by decide) (fun _ hq => ?_) (fun _ hq => ?_)
                    ·
                      refine st_aload_n (pc := 158) dX11_way_158 rfl ?_
                      refine bd_getr (pc := 159) hq dX11_way_159 fl_11_12_11 rfl (fun v20 hq => ?_)
                      refine st_iload_n (pc := 162) dX11_way_162 rfl ?_
                      refine st_iload (pc := 163) dX11_way_163 rfl ?_
                      refine st_iload (pc := 165) dX11_way_165 rfl ?_
                      refine st_iload_n (pc := 167) dX11_way_167 rfl ?_
                      refine st_iload (pc := 168) dX11_way_168 rfl ?_
                      obtain ⟨q21, e21, hq⟩ := mh_ob hq
                      refine st_invS (pc := 170) (Y := mX11_makeWay) (vs := [.int l1, .int (l2 / (100 : Int32)), .int (l2 - l2 / (100 : Int32) * (100 : Int32)), .int l3, .int l4]) (rest := [.ref v20]) (st2 := [.ref q21.1, .ref v20]) dX11_way_170 okX11_makeWay wd_360 wd_361 pdX11_makeWay rfl rfl rfl rfl (Nat.le_trans (by decide) hd) (Nat.le_of_ble_eq_true rfl) (T_X11_makeWay (Nat.le_refl _) e21) rfl ?_
                      obtain ⟨⟨hbq22, hkq22⟩, hq⟩ := mh_oi hq
                      obtain ⟨q22, e22, hq⟩ := mh_ob hq
                      refine st_invV (pc := 173) (ci := 10) (vs := [.ref q21.1]) (rest := []) (st2 := [.int q22.1]) dX11_way_173 okX10_addWay (by decide) hkq22 hbq22 wd_420 wd_421 wd_422 pdX10_addWay rfl rfl rfl rfl (Nat.le_trans (by decide) hd) (Nat.le_of_ble_eq_true rfl) (T_X10_addWay (Nat.le_refl _) e22) rfl ?_
                      exact bd_iret (pc := 176) hq dX11_way_176 rfl
                    ·
                      refine st_aload_n (pc := 152) dX11_way_152 rfl ?_
                      refine st_iconst (pc := 153) (v := (4 : Int32)) dX11_way_153 rfl ?_
                      obtain ⟨⟨hbq20, hkq20⟩, hq⟩ := mh_oi hq
                      obtain ⟨q20, e20, hq⟩ := mh_ob hq
                      refine st_invV (pc := 154) (ci := 11) (vs := [.int (4 : Int32)]) (rest := []) (st2 := [.int q20.1]) dX11_way_154 okX11_error (by decide) hkq20 hbq20 wd_326 wd_328 wp_0 pdX11_error rfl rfl rfl rfl (Nat.le_trans (by decide) hd) (Nat.le_of_ble_eq_true rfl) (T_X11_error (Nat.le_refl _) e20) rfl ?_
                      exact bd_iret (pc := 157) hq dX11_way_157 rfl
                  ·
                    refine st_aload_n (pc := 134) dX11_way_134 rfl ?_
                    refine st_iconst (pc := 135) (v := (3 : Int32)) dX11_way_135 rfl ?_
                    obtain ⟨⟨hbq18, hkq18⟩, hq⟩ := mh_oi hq
                    obtain ⟨q18, e18, hq⟩ := mh_ob hq
                    refine st_invV (pc := 136) (ci := 11) (vs := [.int (3 : Int32)]) (rest := []) (st2 := [.int q18.1]) dX11_way_136 okX11_error (by decide) hkq18 hbq18 wd_326 wd_328 wp_0 pdX11_error rfl rfl rfl rfl (Nat.le_trans (by decide) hd) (Nat.le_of_ble_eq_true rfl) (T_X11_error (Nat.le_refl _) e18) rfl ?_
                    exact bd_iret (pc := 139) hq dX11_way_139 rfl
                ·
                  refine st_lesS (lv' := [some (.ref l0), none, none, none, none, none, none]) ⟨Or.inr rfl, Or.inl rfl, Or.inl rfl, Or.inl rfl, Or.inl rfl, Or.inl rfl, Or.inl rfl, trivial⟩ ?_
                  exact T_X11_way_105 hd hq
              ·
                refine st_lesS (lv' := [some (.ref l0), none, none, none, none, none, none]) ⟨Or.inr rfl, Or.inl rfl, Or.inl rfl, Or.inl rfl, Or.inl rfl, Or.inl rfl, Or.inl rfl, trivial⟩ ?_
                exact T_X11_way_105 hd hq
-- HoleWater.isUnder(LHoleWater$Way;I)Z
theorem dX11_isUnder_0 : decode cX11_isUnder 0 = .ok (.iload_n 1, 1) := by decide +kernel
theorem dX11_isUnder_1 : decode cX11_isUnder 1 = .ok (.tableswitch 60 1 5 #[35, 40, 45, 50, 55], 35) := by decide +kernel
theorem dX11_isUnder_36 : decode cX11_isUnder 36 = .ok (.aload_n 0, 1) := by decide +kernel
theorem dX11_isUnder_37 : decode cX11_isUnder 37 = .ok (.instanceof 385, 3) := by decide +kernel
theorem dX11_isUnder_40 : decode cX11_isUnder 40 = .ok (.ireturn, 1) := by decide +kernel
theorem dX11_isUnder_41 : decode cX11_isUnder 41 = .ok (.aload_n 0, 1) := by decide +kernel
theorem dX11_isUnder_42 : decode cX11_isUnder 42 = .ok (.instanceof 389, 3) := by decide +kernel
theorem dX11_isUnder_45 : decode cX11_isUnder 45 = .ok (.ireturn, 1) := by decide +kernel
theorem dX11_isUnder_46 : decode cX11_isUnder 46 = .ok (.aload_n 0, 1) := by decide +kernel
theorem dX11_isUnder_47 : decode cX11_isUnder 47 = .ok (.instanceof 164, 3) := by decide +kernel
theorem dX11_isUnder_50 : decode cX11_isUnder 50 = .ok (.ireturn, 1) := by decide +kernel
theorem dX11_isUnder_51 : decode cX11_isUnder 51 = .ok (.aload_n 0, 1) := by decide +kernel
theorem dX11_isUnder_52 : decode cX11_isUnder 52 = .ok (.instanceof 393, 3) := by decide +kernel
theorem dX11_isUnder_55 : decode cX11_isUnder 55 = .ok (.ireturn, 1) := by decide +kernel
theorem dX11_isUnder_56 : decode cX11_isUnder 56 = .ok (.aload_n 0, 1) := by decide +kernel
theorem dX11_isUnder_57 : decode cX11_isUnder 57 = .ok (.instanceof 162, 3) := by decide +kernel
theorem dX11_isUnder_60 : decode cX11_isUnder 60 = .ok (.ireturn, 1) := by decide +kernel
theorem dX11_isUnder_61 : decode cX11_isUnder 61 = .ok (.iconst 1, 1) := by decide +kernel
theorem dX11_isUnder_62 : decode cX11_isUnder 62 = .ok (.ireturn, 1) := by decide +kernel
def D_X11_isUnder (N : Nat) (h : mh_H) (l0 : Nat) (l1 : Int32) : Option (Int32 × mh_H) :=
  if l1 = 1 then ((iK h l0 2).bind fun v1 =>
  zB v1 h)
  else if l1 = 2 then ((iK h l0 7).bind fun v1 =>
  zB v1 h)
  else if l1 = 3 then ((iK h l0 3).bind fun v1 =>
  zB v1 h)
  else if l1 = 4 then ((iK h l0 4).bind fun v1 =>
  zB v1 h)
  else if l1 = 5 then ((iK h l0 0).bind fun v1 =>
  zB v1 h)
  else (zB (1 : Int32) h)
set_option maxHeartbeats 4000000 in
set_option maxRecDepth 100000 in
theorem T_X11_isUnder {P : mh_E → Prop} {N d : Nat} (hd : 1 ≤ d) {z : (Int32 × mh_H)} {h : mh_H} {l0 : Nat} {l1 : Int32} (hq : D_X11_isUnder N h l0 l1 = some z) : mh_go P d mX11_isUnder 0 [some (.ref l0), some (.int l1)] [] h (some (.int z.1)) z.2 := by
  unfold D_X11_isUnder at hq
  refine st_iload_n (pc := 0) dX11_isUnder_0 rfl ?_
  by_cases c1 : l1 = 1
  ·
    rw [if_pos c1] at hq
    refine st_tin (pc := 1) (tgt := 36) dX11_isUnder_1 (by rw [c1]; decide) (by rw [c1]; decide) (by rw [c1]; rfl) (by decide) ?_
    refine st_aload_n (pc := 36) dX11_isUnder_36 rfl ?_
    refine bd_inst (pc := 37) hq dX11_isUnder_37 wd_363 mh_instY2 mh_instN2 (fun v1 hq => ?_)
    exact bd_zret (pc := 40) hq dX11_isUnder_40 rfl
  ·
    rw [if_neg c1] at hq
    by_cases c2 : l1 = 2
    ·
      rw [if_pos c2] at hq
      refine st_tin (pc := 1) (tgt := 41) dX11_isUnder_1 (by rw [c2]; decide) (by rw [c2]; decide) (by rw [c2]; rfl) (by decide) ?_
      refine st_aload_n (pc := 41) dX11_isUnder_41 rfl ?_
      refine bd_inst (pc := 42) hq dX11_isUnder_42 wd_374 mh_instY7 mh_instN7 (fun v1 hq => ?_)
      exact bd_zret (pc := 45) hq dX11_isUnder_45 rfl
    ·
      rw [if_neg c2] at hq
      by_cases c3 : l1 = 3
      ·
        rw [if_pos c3] at hq
        refine st_tin (pc := 1) (tgt := 46) dX11_isUnder_1 (by rw [c3]; decide) (by rw [c3]; decide) (by rw [c3]; rfl) (by decide) ?_
        refine st_aload_n (pc := 46) dX11_isUnder_46 rfl ?_
        refine bd_inst (pc := 47) hq dX11_isUnder_47 wd_385 mh_instY3 mh_instN3 (fun v1 hq => ?_)
        exact bd_zret (pc := 50) hq dX11_isUnder_50 rfl
      ·
        rw [if_neg c3] at hq
        by_cases c4 : l1 = 4
        ·
          rw [if_pos c4] at hq
          refine st_tin (pc := 1) (tgt := 51) dX11_isUnder_1 (by rw [c4]; decide) (by rw [c4]; decide) (by rw [c4]; rfl) (by decide) ?_
          refine st_aload_n (pc := 51) dX11_isUnder_51 rfl ?_
          refine bd_inst (pc := 52) hq dX11_isUnder_52 wd_396 mh_instY4 mh_instN4 (fun v1 hq => ?_)
          exact bd_zret (pc := 55) hq dX11_isUnder_55 rfl
        ·
          rw [if_neg c4] at hq
          by_cases c5 : l1 = 5
          ·
            rw [if_pos c5] at hq
            refine st_tin (pc := 1) (tgt := 56) dX11_isUnder_1 (by rw [c5]; decide) (by rw [c5]; decide) (by rw [c5]; rfl) (by decide) ?_
            refine st_aload_n (pc := 56) dX11_isUnder_56 rfl ?_
            refine bd_inst (pc := 57) hq dX11_isUnder_57 wd_407 mh_instY0 mh_instN0 (fun v1 hq => ?_)
            exact bd_zret (pc := 60) hq dX11_isUnder_60 rfl
          ·
            rw [if_neg c5] at hq
            refine st_tout (pc := 1) (tgt := 61) dX11_isUnder_1 (by have e1 := lv_neT c1 (k := 1) (a := 1) (by decide); have e2 := lv_neT c2 (k := 2) (a := 2) (by decide); have e3 := lv_neT c3 (k := 3) (a := 3) (by decide); have e4 := lv_neT c4 (k := 4) (a := 4) (by decide); have e5 := lv_neT c5 (k := 5) (a := 5) (by decide); omega) (by decide) ?_
            refine st_iconst (pc := 61) (v := (1 : Int32)) dX11_isUnder_61 rfl ?_
            exact bd_zret (pc := 62) hq dX11_isUnder_62 rfl
-- HoleWater$Way.takes()I
theorem dX9_takes_0 : decode cX9_takes 0 = .ok (.aload_n 0, 1) := by decide +kernel
theorem dX9_takes_1 : decode cX9_takes 1 = .ok (.getfield 16, 3) := by decide +kernel
theorem dX9_takes_4 : decode cX9_takes 4 = .ok (.ireturn, 1) := by decide +kernel
def D_X9_takes (N : Nat) (h : mh_H) (l0 : Nat) : Option (Int32 × mh_H) :=
  (gW h l0 2).bind fun v1 =>
  some (v1, h)
set_option maxHeartbeats 4000000 in
set_option maxRecDepth 100000 in
theorem T_X9_takes {P : mh_E → Prop} {N d : Nat} (hd : 1 ≤ d) {z : (Int32 × mh_H)} {h : mh_H} {l0 : Nat} (hq : D_X9_takes N h l0 = some z) : mh_go P d mX9_takes 0 [some (.ref l0)] [] h (some (.int z.1)) z.2 := by
  unfold D_X9_takes at hq
  refine st_aload_n (pc := 0) dX9_takes_0 rfl ?_
  refine bd_getw (pc := 1) hq dX9_takes_1 flw_9_16 (by decide) (fun v1 hq => ?_)
  exact bd_iret (pc := 4) hq dX9_takes_4 rfl
-- HoleWater$Open.takes()I
theorem dX2_takes_0 : decode cX2_takes 0 = .ok (.aload_n 0, 1) := by decide +kernel
theorem dX2_takes_1 : decode cX2_takes 1 = .ok (.invokespecial 7, 3) := by decide +kernel
theorem dX2_takes_4 : decode cX2_takes 4 = .ok (.iconst 2, 1) := by decide +kernel
theorem dX2_takes_5 : decode cX2_takes 5 = .ok (.idiv, 1) := by decide +kernel
theorem dX2_takes_6 : decode cX2_takes 6 = .ok (.iconst 1, 1) := by decide +kernel
theorem dX2_takes_7 : decode cX2_takes 7 = .ok (.iadd, 1) := by decide +kernel
theorem dX2_takes_8 : decode cX2_takes 8 = .ok (.ireturn, 1) := by decide +kernel
def D_X2_takes (N : Nat) (h : mh_H) (l0 : Nat) : Option (Int32 × mh_H) :=
  kW h l0 <|
  (D_X9_takes N h l0).bind fun q1 =>
  dN (2 : Int32) <|
  some ((q1.1 / (2 : Int32)) + (1 : Int32), q1.2)
set_option maxHeartbeats 4000000 in
set_option maxRecDepth 100000 in
theorem T_X2_takes {P : mh_E → Prop} {N d : Nat} (hd : 2 ≤ d) {z : (Int32 × mh_H)} {h : mh_H} {l0 : Nat} (hq : D_X2_takes N h l0 = some z) : mh_go P d mX2_takes 0 [some (.ref l0)] [] h (some (.int z.1)) z.2 := by
  unfold D_X2_takes at hq
  refine st_aload_n (pc := 0) dX2_takes_0 rfl ?_
  obtain ⟨⟨hbq1, hwq1⟩, hq⟩ := mh_oi hq
  obtain ⟨q1, e1, hq⟩ := mh_ob hq
  obtain ⟨ciq1, hkq1, hcq1, -⟩ := mh_w6 (Pr := fun _ => True) trivial trivial trivial trivial trivial trivial _ hwq1
  refine st_invP (pc := 1) (vs := []) (rest := []) (st2 := [.int q1.1]) dX2_takes_1 okX9_takes hcq1 hkq1 hbq1 wd_446 wd_438 wd_373 wd_436 (by decide) pdX9_takes rfl rfl rfl rfl (Nat.le_trans (by decide) hd) (Nat.le_of_ble_eq_true rfl) (T_X9_takes (Nat.le_refl _) e1) rfl ?_
  refine st_iconst (pc := 4) (v := (2 : Int32)) dX2_takes_4 rfl ?_
  refine bd_idiv (pc := 5) hq dX2_takes_5 (fun hq => ?_)
  refine st_iconst (pc := 6) (v := (1 : Int32)) dX2_takes_6 rfl ?_
  refine st_iadd (pc := 7) dX2_takes_7 ?_
  exact bd_iret (pc := 8) hq dX2_takes_8 rfl
-- HoleWater$Sieve.takes()I
theorem dX7_takes_0 : decode cX7_takes 0 = .ok (.aload_n 0, 1) := by decide +kernel
theorem dX7_takes_1 : decode cX7_takes 1 = .ok (.invokespecial 7, 3) := by decide +kernel
theorem dX7_takes_4 : decode cX7_takes 4 = .ok (.iconst 2, 1) := by decide +kernel
theorem dX7_takes_5 : decode cX7_takes 5 = .ok (.imul, 1) := by decide +kernel
theorem dX7_takes_6 : decode cX7_takes 6 = .ok (.ireturn, 1) := by decide +kernel
def D_X7_takes (N : Nat) (h : mh_H) (l0 : Nat) : Option (Int32 × mh_H) :=
  kW h l0 <|
  (D_X9_takes N h l0).bind fun q1 =>
  some (q1.1 * (2 : Int32), q1.2)
set_option maxHeartbeats 4000000 in
set_option maxRecDepth 100000 in
theorem T_X7_takes {P : mh_E → Prop} {N d : Nat} (hd : 2 ≤ d) {z : (Int32 × mh_H)} {h : mh_H} {l0 : Nat} (hq : D_X7_takes N h l0 = some z) : mh_go P d mX7_takes 0 [some (.ref l0)] [] h (some (.int z.1)) z.2 := by
  unfold D_X7_takes at hq
  refine st_aload_n (pc := 0) dX7_takes_0 rfl ?_
  obtain ⟨⟨hbq1, hwq1⟩, hq⟩ := mh_oi hq
  obtain ⟨q1, e1, hq⟩ := mh_ob hq
  obtain ⟨ciq1, hkq1, hcq1, -⟩ := mh_w6 (Pr := fun _ => True) trivial trivial trivial trivial trivial trivial _ hwq1
  refine st_invP (pc := 1) (vs := []) (rest := []) (st2 := [.int q1.1]) dX7_takes_1 okX9_takes hcq1 hkq1 hbq1 wd_442 wd_438 wd_384 wd_436 (by decide) pdX9_takes rfl rfl rfl rfl (Nat.le_trans (by decide) hd) (Nat.le_of_ble_eq_true rfl) (T_X9_takes (Nat.le_refl _) e1) rfl ?_
  refine st_iconst (pc := 4) (v := (2 : Int32)) dX7_takes_4 rfl ?_
  refine st_imul (pc := 5) dX7_takes_5 ?_
  exact bd_iret (pc := 6) hq dX7_takes_6 rfl
-- HoleWater$World.isWay(I)Z
theorem dX10_isWay_0 : decode cX10_isWay 0 = .ok (.iload_n 1, 1) := by decide +kernel
theorem dX10_isWay_1 : decode cX10_isWay 1 = .ok (.ifCond .lt 15, 3) := by decide +kernel
theorem dX10_isWay_16 : decode cX10_isWay 16 = .ok (.iconst 0, 1) := by decide +kernel
theorem dX10_isWay_17 : decode cX10_isWay 17 = .ok (.ireturn, 1) := by decide +kernel
theorem dX10_isWay_4 : decode cX10_isWay 4 = .ok (.iload_n 1, 1) := by decide +kernel
theorem dX10_isWay_5 : decode cX10_isWay 5 = .ok (.aload_n 0, 1) := by decide +kernel
theorem dX10_isWay_6 : decode cX10_isWay 6 = .ok (.getfield 15, 3) := by decide +kernel
theorem dX10_isWay_9 : decode cX10_isWay 9 = .ok (.if_icmp .ge 7, 3) := by decide +kernel
theorem dX10_isWay_12 : decode cX10_isWay 12 = .ok (.iconst 1, 1) := by decide +kernel
theorem dX10_isWay_13 : decode cX10_isWay 13 = .ok (.goto 4, 3) := by decide +kernel
def D_X10_isWay (N : Nat) (h : mh_H) (l0 : Nat) (l1 : Int32) : Option (Int32 × mh_H) :=
  if l1 < 0 then (zB (0 : Int32) h)
  else ((gI h 10 l0 1).bind fun v1 =>
  if v1 ≤ l1 then (zB (0 : Int32) h)
  else (zB (1 : Int32) h))
set_option maxHeartbeats 4000000 in
set_option maxRecDepth 100000 in
theorem T_X10_isWay {P : mh_E → Prop} {N d : Nat} (hd : 1 ≤ d) {z : (Int32 × mh_H)} {h : mh_H} {l0 : Nat} {l1 : Int32} (hq : D_X10_isWay N h l0 l1 = some z) : mh_go P d mX10_isWay 0 [some (.ref l0), some (.int l1)] [] h (some (.int z.1)) z.2 := by
  unfold D_X10_isWay at hq
  refine st_iload_n (pc := 0) dX10_isWay_0 rfl ?_
  refine bd_if_lt (pc := 1) (tgt := 16) hq dX10_isWay_1 (by decide) (fun _ hq => ?_) (fun _ hq => ?_)
  ·
    refine st_iconst (pc := 16) (v := (0 : Int32)) dX10_isWay_16 rfl ?_
    exact bd_zret (pc := 17) hq dX10_isWay_17 rfl
  ·
    refine st_iload_n (pc := 4) dX10_isWay_4 rfl ?_
    refine st_aload_n (pc := 5) dX10_isWay_5 rfl ?_
    refine bd_geti (pc := 6) hq dX10_isWay_6 fl_10_15_10 rfl (fun v1 hq => ?_)
    refine bd_icmp_ge (pc := 9) (tgt := 16) hq dX10_isWay_9 (by decide) (fun _ hq => ?_) (fun _ hq => ?_)
    ·
      refine st_iconst (pc := 16) (v := (0 : Int32)) dX10_isWay_16 rfl ?_
      exact bd_zret (pc := 17) hq dX10_isWay_17 rfl
    ·
      refine st_iconst (pc := 12) (v := (1 : Int32)) dX10_isWay_12 rfl ?_
      refine st_goto (pc := 13) (tgt := 17) dX10_isWay_13 (by decide) ?_
      exact bd_zret (pc := 17) hq dX10_isWay_17 rfl
-- HoleWater.as(II)I
theorem dX11_as_20 : decode cX11_as 20 = .ok (.aload_n 0, 1) := by decide +kernel
theorem dX11_as_21 : decode cX11_as 21 = .ok (.iconst 1, 1) := by decide +kernel
theorem dX11_as_22 : decode cX11_as 22 = .ok (.invokevirtual 66, 3) := by decide +kernel
theorem dX11_as_25 : decode cX11_as 25 = .ok (.ireturn, 1) := by decide +kernel
theorem dX11_as_0 : decode cX11_as 0 = .ok (.aload_n 0, 1) := by decide +kernel
theorem dX11_as_1 : decode cX11_as 1 = .ok (.getfield 12, 3) := by decide +kernel
theorem dX11_as_4 : decode cX11_as 4 = .ok (.iload_n 1, 1) := by decide +kernel
theorem dX11_as_5 : decode cX11_as 5 = .ok (.invokevirtual 127, 3) := by decide +kernel
theorem dX11_as_8 : decode cX11_as 8 = .ok (.ifCond .eq 12, 3) := by decide +kernel
theorem dX11_as_11 : decode cX11_as 11 = .ok (.iload_n 2, 1) := by decide +kernel
theorem dX11_as_12 : decode cX11_as 12 = .ok (.iconst 0, 1) := by decide +kernel
theorem dX11_as_13 : decode cX11_as 13 = .ok (.iconst 5, 1) := by decide +kernel
theorem dX11_as_14 : decode cX11_as 14 = .ok (.invokestatic 62, 3) := by decide +kernel
theorem dX11_as_17 : decode cX11_as 17 = .ok (.ifCond .ne 9, 3) := by decide +kernel
theorem dX11_as_26 : decode cX11_as 26 = .ok (.aload_n 0, 1) := by decide +kernel
theorem dX11_as_27 : decode cX11_as 27 = .ok (.getfield 12, 3) := by decide +kernel
theorem dX11_as_30 : decode cX11_as 30 = .ok (.getfield 130, 3) := by decide +kernel
theorem dX11_as_33 : decode cX11_as 33 = .ok (.iload_n 1, 1) := by decide +kernel
theorem dX11_as_34 : decode cX11_as 34 = .ok (.aaload, 1) := by decide +kernel
theorem dX11_as_35 : decode cX11_as 35 = .ok (.astore_n 3, 1) := by decide +kernel
theorem dX11_as_36 : decode cX11_as 36 = .ok (.aload_n 3, 1) := by decide +kernel
theorem dX11_as_37 : decode cX11_as 37 = .ok (.iload_n 2, 1) := by decide +kernel
theorem dX11_as_38 : decode cX11_as 38 = .ok (.invokestatic 134, 3) := by decide +kernel
theorem dX11_as_41 : decode cX11_as 41 = .ok (.ifCond .eq 10, 3) := by decide +kernel
theorem dX11_as_51 : decode cX11_as 51 = .ok (.aload_n 0, 1) := by decide +kernel
theorem dX11_as_52 : decode cX11_as 52 = .ok (.iconst 5, 1) := by decide +kernel
theorem dX11_as_53 : decode cX11_as 53 = .ok (.invokevirtual 66, 3) := by decide +kernel
theorem dX11_as_56 : decode cX11_as 56 = .ok (.ireturn, 1) := by decide +kernel
theorem dX11_as_44 : decode cX11_as 44 = .ok (.aload_n 3, 1) := by decide +kernel
theorem dX11_as_45 : decode cX11_as 45 = .ok (.invokevirtual 138, 3) := by decide +kernel
theorem dX11_as_48 : decode cX11_as 48 = .ok (.goto 8, 3) := by decide +kernel
def V_Way_takes (N : Nat) (h : mh_H) (b : Nat) : Option (Int32 × mh_H) :=
  if b < mh_n h ∧ mh_k h b = 11 then D_X9_takes N h b
  else if b < mh_n h ∧ mh_k h b = 2 then D_X7_takes N h b
  else if b < mh_n h ∧ mh_k h b = 4 then D_X2_takes N h b
  else if b < mh_n h ∧ mh_k h b = 5 then D_X2_takes N h b
  else if b < mh_n h ∧ mh_k h b = 6 then D_X9_takes N h b
  else if b < mh_n h ∧ mh_k h b = 9 then D_X7_takes N h b
  else none
set_option maxHeartbeats 4000000 in
set_option maxRecDepth 100000 in
theorem S_X11_as_45 {P : mh_E → Prop} {N d : Nat} {lv : List (Option Value)} {rest : List Value} {h : mh_H} {b : Nat} {q : (Int32 × mh_H)} {r : Option Value} {h' : mh_H} (hd : 3 ≤ d) (hW : (rest.map fun v => v.category).sum ≤ 8) (e : V_Way_takes N h b = some q) (k : mh_go P d mX11_as 48 lv (.int q.1 :: rest) q.2 r h') : mh_go P d mX11_as 45 lv (.ref b :: rest) h r h' := by
  unfold V_Way_takes at e
  rcases mh_or e with ⟨⟨hb, hk⟩, e⟩ | ⟨-, e⟩
  · exact st_invV (pc := 45) (ci := 9) (vs := []) dX11_as_45 okX9_takes (by decide) hk hb wd_435 wd_436 wd_437 pdX9_takes rfl rfl rfl rfl (Nat.le_trans (by decide) hd) hW (T_X9_takes (Nat.le_refl _) e) rfl k
  rcases mh_or e with ⟨⟨hb, hk⟩, e⟩ | ⟨-, e⟩
  · exact st_invU (pc := 45) (ci := 0) (owner := "HoleWater$Way") (x := ⟨"HoleWater$Way", "takes", "()I"⟩) (vs := []) dX11_as_45 okX7_takes (by decide) hk hb wd_435 wd_438 wd_436 wd_450 wd_440 wd_439 ⟨by decide, by decide⟩ pdX7_takes rfl rfl rfl rfl (Nat.le_trans (by decide) hd) hW (T_X7_takes (Nat.le_refl _) e) rfl k
  rcases mh_or e with ⟨⟨hb, hk⟩, e⟩ | ⟨-, e⟩
  · exact st_invU (pc := 45) (ci := 2) (owner := "HoleWater$Way") (x := ⟨"HoleWater$Way", "takes", "()I"⟩) (vs := []) dX11_as_45 okX2_takes (by decide) hk hb wd_435 wd_438 wd_436 wd_450 wd_444 wd_443 ⟨by decide, by decide⟩ pdX2_takes rfl rfl rfl rfl (Nat.le_trans (by decide) hd) hW (T_X2_takes (Nat.le_refl _) e) rfl k
  rcases mh_or e with ⟨⟨hb, hk⟩, e⟩ | ⟨-, e⟩
  · exact st_invU (pc := 45) (ci := 3) (owner := "HoleWater$Way") (x := ⟨"HoleWater$Way", "takes", "()I"⟩) (vs := []) dX11_as_45 okX2_takes (by decide) hk hb wd_435 wd_438 wd_436 wd_450 wd_444 wd_447 ⟨by decide, by decide⟩ pdX2_takes rfl rfl rfl rfl (Nat.le_trans (by decide) hd) hW (T_X2_takes (Nat.le_refl _) e) rfl k
  rcases mh_or e with ⟨⟨hb, hk⟩, e⟩ | ⟨-, e⟩
  · exact st_invV (pc := 45) (ci := 4) (vs := []) dX11_as_45 okX9_takes (by decide) hk hb wd_435 wd_436 wd_448 pdX9_takes rfl rfl rfl rfl (Nat.le_trans (by decide) hd) hW (T_X9_takes (Nat.le_refl _) e) rfl k
  rcases mh_or e with ⟨⟨hb, hk⟩, e⟩ | ⟨-, e⟩
  · exact st_invU (pc := 45) (ci := 7) (owner := "HoleWater$Way") (x := ⟨"HoleWater$Way", "takes", "()I"⟩) (vs := []) dX11_as_45 okX7_takes (by decide) hk hb wd_435 wd_438 wd_436 wd_450 wd_440 wd_449 ⟨by decide, by decide⟩ pdX7_takes rfl rfl rfl rfl (Nat.le_trans (by decide) hd) hW (T_X7_takes (Nat.le_refl _) e) rfl k
  cases e
def D_X11_as_20 (N : Nat) (h : mh_H) (l0 : Nat) : Option (Int32 × mh_H) :=
  kO h 11 l0 <|
  (D_X11_error N h l0 (1 : Int32)).bind fun q1 =>
  some (q1.1, q1.2)
set_option maxHeartbeats 4000000 in
set_option maxRecDepth 100000 in
theorem T_X11_as_20 {P : mh_E → Prop} {N d : Nat} (hd : 3 ≤ d) {z : (Int32 × mh_H)} {h : mh_H} {l0 : Nat} (hq : D_X11_as_20 N h l0 = some z) : mh_go P d mX11_as 20 [some (.ref l0), none, none, none] [] h (some (.int z.1)) z.2 := by
  unfold D_X11_as_20 at hq
  refine st_aload_n (pc := 20) dX11_as_20 rfl ?_
  refine st_iconst (pc := 21) (v := (1 : Int32)) dX11_as_21 rfl ?_
  obtain ⟨⟨hbq1, hkq1⟩, hq⟩ := mh_oi hq
  obtain ⟨q1, e1, hq⟩ := mh_ob hq
  refine st_invV (pc := 22) (ci := 11) (vs := [.int (1 : Int32)]) (rest := []) (st2 := [.int q1.1]) dX11_as_22 okX11_error (by decide) hkq1 hbq1 wd_326 wd_328 wp_0 pdX11_error rfl rfl rfl rfl (Nat.le_trans (by decide) hd) (Nat.le_of_ble_eq_true rfl) (T_X11_error (Nat.le_refl _) e1) rfl ?_
  exact bd_iret (pc := 25) hq dX11_as_25 rfl
def D_X11_as (N : Nat) (h : mh_H) (l0 : Nat) (l1 : Int32) (l2 : Int32) : Option (Int32 × mh_H) :=
  (gR h 11 l0 0).bind fun v1 =>
  kO h 10 v1 <|
  (D_X10_isWay N h v1 l1).bind fun q2 =>
  if q2.1 = 0 then (D_X11_as_20 N q2.2 l0)
  else ((D_X11_within N q2.2 l2 (0 : Int32) (5 : Int32)).bind fun q3 =>
  if q3.1 = 0 then (D_X11_as_20 N q3.2 l0)
  else ((gR q3.2 11 l0 0).bind fun v4 =>
  (gR q3.2 10 v4 6).bind fun v5 =>
  (aR q3.2 v5 l1).bind fun v6 =>
  (D_X11_isUnder N q3.2 v6 l2).bind fun q7 =>
  if q7.1 = 0 then (kO q7.2 11 l0 <|
  (D_X11_error N q7.2 l0 (5 : Int32)).bind fun q8 =>
  some (q8.1, q8.2))
  else ((V_Way_takes N q7.2 v6).bind fun q8 =>
  some (q8.1, q8.2))))
set_option maxHeartbeats 4000000 in
set_option maxRecDepth 100000 in
theorem T_X11_as {P : mh_E → Prop} {N d : Nat} (hd : 3 ≤ d) {z : (Int32 × mh_H)} {h : mh_H} {l0 : Nat} {l1 : Int32} {l2 : Int32} (hq : D_X11_as N h l0 l1 l2 = some z) : mh_go P d mX11_as 0 [some (.ref l0), some (.int l1), some (.int l2), none] [] h (some (.int z.1)) z.2 := by
  unfold D_X11_as at hq
  refine st_aload_n (pc := 0) dX11_as_0 rfl ?_
  refine bd_getr (pc := 1) hq dX11_as_1 fl_11_12_11 rfl (fun v1 hq => ?_)
  refine st_iload_n (pc := 4) dX11_as_4 rfl ?_
  obtain ⟨⟨hbq2, hkq2⟩, hq⟩ := mh_oi hq
  obtain ⟨q2, e2, hq⟩ := mh_ob hq
  refine st_invV (pc := 5) (ci := 10) (vs := [.int l1]) (rest := []) (st2 := [.int q2.1]) dX11_as_5 okX10_isWay (by decide) hkq2 hbq2 wd_428 wd_429 wd_430 pdX10_isWay rfl rfl rfl rfl (Nat.le_trans (by decide) hd) (Nat.le_of_ble_eq_true rfl) (T_X10_isWay (Nat.le_refl _) e2) rfl ?_
  refine bd_if_eq (pc := 8) (tgt := 20) hq dX11_as_8 (by decide) (fun _ hq => ?_) (fun _ hq => ?_)
  ·
    refine st_lesS (lv' := [some (.ref l0), none, none, none]) ⟨Or.inr rfl, Or.inl rfl, Or.inl rfl, Or.inr rfl, trivial⟩ ?_
    exact T_X11_as_20 hd hq
  ·
    refine st_iload_n (pc := 11) dX11_as_11 rfl ?_
    refine st_iconst (pc := 12) (v := (0 : Int32)) dX11_as_12 rfl ?_
    refine st_iconst (pc := 13) (v := (5 : Int32)) dX11_as_13 rfl ?_
    obtain ⟨q3, e3, hq⟩ := mh_ob hq
    refine st_invS (pc := 14) (Y := mX11_within) (vs := [.int l2, .int (0 : Int32), .int (5 : Int32)]) (rest := []) (st2 := [.int q3.1]) dX11_as_14 okX11_within wd_323 wd_324 pdX11_within rfl rfl rfl rfl (Nat.le_trans (by decide) hd) (Nat.le_of_ble_eq_true rfl) (T_X11_within (Nat.le_refl _) e3) rfl ?_
    refine bd_if_ne (pc := 17) (tgt := 26) hq dX11_as_17 (by decide) (fun _ hq => ?_) (fun _ hq => ?_)
    ·
      refine st_lesS (lv' := [some (.ref l0), none, none, none]) ⟨Or.inr rfl, Or.inl rfl, Or.inl rfl, Or.inr rfl, trivial⟩ ?_
      exact T_X11_as_20 hd hq
    ·
      refine st_aload_n (pc := 26) dX11_as_26 rfl ?_
      refine bd_getr (pc := 27) hq dX11_as_27 fl_11_12_11 rfl (fun v4 hq => ?_)
      refine bd_getr (pc := 30) hq dX11_as_30 fl_11_130_10 rfl (fun v5 hq => ?_)
      refine st_iload_n (pc := 33) dX11_as_33 rfl ?_
      refine bd_aald (pc := 34) hq dX11_as_34 (fun v6 hq => ?_)
      refine st_astore_n (pc := 35) (lv' := [some (.ref l0), some (.int l1), some (.int l2), some (.ref v6)]) dX11_as_35 rfl (by decide) rfl ?_
      refine st_aload_n (pc := 36) dX11_as_36 rfl ?_
      refine st_iload_n (pc := 37) dX11_as_37 rfl ?_
      obtain ⟨q7, e7, hq⟩ := mh_ob hq
      refine st_invS (pc := 38) (Y := mX11_isUnder) (vs := [.ref v6, .int l2]) (rest := []) (st2 := [.int q7.1]) dX11_as_38 okX11_isUnder wd_432 wd_433 pdX11_isUnder rfl rfl rfl rfl (Nat.le_trans (by decide) hd) (Nat.le_of_ble_eq_true rfl) (T_X11_isUnder (Nat.le_refl _) e7) rfl ?_
      refine bd_if_eq (pc := 41) (tgt := 51) hq dX11_as_41 (by decide) (fun _ hq => ?_) (fun _ hq => ?_)
      ·
        refine st_aload_n (pc := 51) dX11_as_51 rfl ?_
        refine st_iconst (pc := 52) (v := (5 : Int32)) dX11_as_52 rfl ?_
        obtain ⟨⟨hbq8, hkq8⟩, hq⟩ := mh_oi hq
        obtain ⟨q8, e8, hq⟩ := mh_ob hq
        refine st_invV (pc := 53) (ci := 11) (vs := [.int (5 : Int32)]) (rest := []) (st2 := [.int q8.1]) dX11_as_53 okX11_error (by decide) hkq8 hbq8 wd_326 wd_328 wp_0 pdX11_error rfl rfl rfl rfl (Nat.le_trans (by decide) hd) (Nat.le_of_ble_eq_true rfl) (T_X11_error (Nat.le_refl _) e8) rfl ?_
        exact bd_iret (pc := 56) hq dX11_as_56 rfl
      ·
        refine st_aload_n (pc := 44) dX11_as_44 rfl ?_
        obtain ⟨q8, e8, hq⟩ := mh_ob hq
        refine S_X11_as_45 (rest := []) hd (Nat.le_of_ble_eq_true rfl) e8 ?_
        refine st_goto (pc := 48) (tgt := 56) dX11_as_48 (by decide) ?_
        exact bd_iret (pc := 56) hq dX11_as_56 rfl
-- HoleWater$Blind.kind()I
theorem dX0_kind_0 : decode cX0_kind 0 = .ok (.iconst 5, 1) := by decide +kernel
theorem dX0_kind_1 : decode cX0_kind 1 = .ok (.ireturn, 1) := by decide +kernel
def D_X0_kind (N : Nat) (h : mh_H) (l0 : Nat) : Option (Int32 × mh_H) :=
  some ((5 : Int32), h)
set_option maxHeartbeats 4000000 in
set_option maxRecDepth 100000 in
theorem T_X0_kind {P : mh_E → Prop} {N d : Nat} (hd : 1 ≤ d) {z : (Int32 × mh_H)} {h : mh_H} {l0 : Nat} (hq : D_X0_kind N h l0 = some z) : mh_go P d mX0_kind 0 [some (.ref l0)] [] h (some (.int z.1)) z.2 := by
  unfold D_X0_kind at hq
  refine st_iconst (pc := 0) (v := (5 : Int32)) dX0_kind_0 rfl ?_
  exact bd_iret (pc := 1) hq dX0_kind_1 rfl
-- HoleWater$Open.kind()I
theorem dX2_kind_0 : decode cX2_kind 0 = .ok (.iconst 1, 1) := by decide +kernel
theorem dX2_kind_1 : decode cX2_kind 1 = .ok (.ireturn, 1) := by decide +kernel
def D_X2_kind (N : Nat) (h : mh_H) (l0 : Nat) : Option (Int32 × mh_H) :=
  some ((1 : Int32), h)
set_option maxHeartbeats 4000000 in
set_option maxRecDepth 100000 in
theorem T_X2_kind {P : mh_E → Prop} {N d : Nat} (hd : 1 ≤ d) {z : (Int32 × mh_H)} {h : mh_H} {l0 : Nat} (hq : D_X2_kind N h l0 = some z) : mh_go P d mX2_kind 0 [some (.ref l0)] [] h (some (.int z.1)) z.2 := by
  unfold D_X2_kind at hq
  refine st_iconst (pc := 0) (v := (1 : Int32)) dX2_kind_0 rfl ?_
  exact bd_iret (pc := 1) hq dX2_kind_1 rfl
-- HoleWater$Overflow.kind()I
theorem dX3_kind_0 : decode cX3_kind 0 = .ok (.iconst 3, 1) := by decide +kernel
theorem dX3_kind_1 : decode cX3_kind 1 = .ok (.ireturn, 1) := by decide +kernel
def D_X3_kind (N : Nat) (h : mh_H) (l0 : Nat) : Option (Int32 × mh_H) :=
  some ((3 : Int32), h)
set_option maxHeartbeats 4000000 in
set_option maxRecDepth 100000 in
theorem T_X3_kind {P : mh_E → Prop} {N d : Nat} (hd : 1 ≤ d) {z : (Int32 × mh_H)} {h : mh_H} {l0 : Nat} (hq : D_X3_kind N h l0 = some z) : mh_go P d mX3_kind 0 [some (.ref l0)] [] h (some (.int z.1)) z.2 := by
  unfold D_X3_kind at hq
  refine st_iconst (pc := 0) (v := (3 : Int32)) dX3_kind_0 rfl ?_
  exact bd_iret (pc := 1) hq dX3_kind_1 rfl
-- HoleWater$Pool.kind()I
theorem dX4_kind_0 : decode cX4_kind 0 = .ok (.iconst 4, 1) := by decide +kernel
theorem dX4_kind_1 : decode cX4_kind 1 = .ok (.ireturn, 1) := by decide +kernel
def D_X4_kind (N : Nat) (h : mh_H) (l0 : Nat) : Option (Int32 × mh_H) :=
  some ((4 : Int32), h)
set_option maxHeartbeats 4000000 in
set_option maxRecDepth 100000 in
theorem T_X4_kind {P : mh_E → Prop} {N d : Nat} (hd : 1 ≤ d) {z : (Int32 × mh_H)} {h : mh_H} {l0 : Nat} (hq : D_X4_kind N h l0 = some z) : mh_go P d mX4_kind 0 [some (.ref l0)] [] h (some (.int z.1)) z.2 := by
  unfold D_X4_kind at hq
  refine st_iconst (pc := 0) (v := (4 : Int32)) dX4_kind_0 rfl ?_
  exact bd_iret (pc := 1) hq dX4_kind_1 rfl
-- HoleWater$Sieve.kind()I
theorem dX7_kind_0 : decode cX7_kind 0 = .ok (.iconst 2, 1) := by decide +kernel
theorem dX7_kind_1 : decode cX7_kind 1 = .ok (.ireturn, 1) := by decide +kernel
def D_X7_kind (N : Nat) (h : mh_H) (l0 : Nat) : Option (Int32 × mh_H) :=
  some ((2 : Int32), h)
set_option maxHeartbeats 4000000 in
set_option maxRecDepth 100000 in
theorem T_X7_kind {P : mh_E → Prop} {N d : Nat} (hd : 1 ≤ d) {z : (Int32 × mh_H)} {h : mh_H} {l0 : Nat} (hq : D_X7_kind N h l0 = some z) : mh_go P d mX7_kind 0 [some (.ref l0)] [] h (some (.int z.1)) z.2 := by
  unfold D_X7_kind at hq
  refine st_iconst (pc := 0) (v := (2 : Int32)) dX7_kind_0 rfl ?_
  exact bd_iret (pc := 1) hq dX7_kind_1 rfl
-- HoleWater$Water.inWay(II)I
theorem dX8_inWay_14 : decode cX8_inWay 14 = .ok (.iload 4, 2) := by decide +kernel
theorem dX8_inWay_16 : decode cX8_inWay 16 = .ok (.bipush 40, 2) := by decide +kernel
theorem dX8_inWay_18 : decode cX8_inWay 18 = .ok (.if_icmp .ge 28, 3) := by decide +kernel
theorem dX8_inWay_46 : decode cX8_inWay 46 = .ok (.iload_n 3, 1) := by decide +kernel
theorem dX8_inWay_47 : decode cX8_inWay 47 = .ok (.ireturn, 1) := by decide +kernel
theorem dX8_inWay_21 : decode cX8_inWay 21 = .ok (.iload_n 3, 1) := by decide +kernel
theorem dX8_inWay_22 : decode cX8_inWay 22 = .ok (.aload_n 0, 1) := by decide +kernel
theorem dX8_inWay_23 : decode cX8_inWay 23 = .ok (.getfield 32, 3) := by decide +kernel
theorem dX8_inWay_26 : decode cX8_inWay 26 = .ok (.iload_n 1, 1) := by decide +kernel
theorem dX8_inWay_27 : decode cX8_inWay 27 = .ok (.bipush 40, 2) := by decide +kernel
theorem dX8_inWay_29 : decode cX8_inWay 29 = .ok (.imul, 1) := by decide +kernel
theorem dX8_inWay_30 : decode cX8_inWay 30 = .ok (.iload 4, 2) := by decide +kernel
theorem dX8_inWay_32 : decode cX8_inWay 32 = .ok (.iadd, 1) := by decide +kernel
theorem dX8_inWay_33 : decode cX8_inWay 33 = .ok (.iconst 5, 1) := by decide +kernel
theorem dX8_inWay_34 : decode cX8_inWay 34 = .ok (.imul, 1) := by decide +kernel
theorem dX8_inWay_35 : decode cX8_inWay 35 = .ok (.iload_n 2, 1) := by decide +kernel
theorem dX8_inWay_36 : decode cX8_inWay 36 = .ok (.iadd, 1) := by decide +kernel
theorem dX8_inWay_37 : decode cX8_inWay 37 = .ok (.iaload, 1) := by decide +kernel
theorem dX8_inWay_38 : decode cX8_inWay 38 = .ok (.iadd, 1) := by decide +kernel
theorem dX8_inWay_39 : decode cX8_inWay 39 = .ok (.istore_n 3, 1) := by decide +kernel
theorem dX8_inWay_40 : decode cX8_inWay 40 = .ok (.iinc 4 1, 3) := by decide +kernel
theorem dX8_inWay_43 : decode cX8_inWay 43 = .ok (.goto (-29), 3) := by decide +kernel
theorem dX8_inWay_0 : decode cX8_inWay 0 = .ok (.aload_n 0, 1) := by decide +kernel
theorem dX8_inWay_1 : decode cX8_inWay 1 = .ok (.getfield 35, 3) := by decide +kernel
theorem dX8_inWay_4 : decode cX8_inWay 4 = .ok (.iload_n 1, 1) := by decide +kernel
theorem dX8_inWay_5 : decode cX8_inWay 5 = .ok (.iconst 5, 1) := by decide +kernel
theorem dX8_inWay_6 : decode cX8_inWay 6 = .ok (.imul, 1) := by decide +kernel
theorem dX8_inWay_7 : decode cX8_inWay 7 = .ok (.iload_n 2, 1) := by decide +kernel
theorem dX8_inWay_8 : decode cX8_inWay 8 = .ok (.iadd, 1) := by decide +kernel
theorem dX8_inWay_9 : decode cX8_inWay 9 = .ok (.iaload, 1) := by decide +kernel
theorem dX8_inWay_10 : decode cX8_inWay 10 = .ok (.istore_n 3, 1) := by decide +kernel
theorem dX8_inWay_11 : decode cX8_inWay 11 = .ok (.iconst 0, 1) := by decide +kernel
theorem dX8_inWay_12 : decode cX8_inWay 12 = .ok (.istore 4, 2) := by decide +kernel
def D_X8_inWay_14 (N : Nat) : Nat → mh_H → Nat → Int32 → Int32 → Int32 → Int32 → Option (Int32 × mh_H)
  | 0, _, _, _, _, _, _ => none
  | F + 1, h, l0, l1, l2, l3, l4 =>
    if (40 : Int32) ≤ l4 then (some (l3, h))
    else ((gR h 8 l0 6).bind fun v1 =>
    (aI h v1 ((((l1 * (40 : Int32)) + l4) * (5 : Int32)) + l2)).bind fun v2 =>
    (D_X8_inWay_14 N F) h l0 l1 l2 (l3 + v2) (l4 + Int32.ofInt (1)))
set_option maxHeartbeats 4000000 in
set_option maxRecDepth 100000 in
theorem T_X8_inWay_14 {P : mh_E → Prop} {N d : Nat} (hd : 1 ≤ d) {z : (Int32 × mh_H)} : ∀ (F : Nat) (h : mh_H) (l0 : Nat) (l1 : Int32) (l2 : Int32) (l3 : Int32) (l4 : Int32), D_X8_inWay_14 N F h l0 l1 l2 l3 l4 = some z → mh_go P d mX8_inWay 14 [some (.ref l0), some (.int l1), some (.int l2), some (.int l3), some (.int l4)] [] h (some (.int z.1)) z.2 := by
  intro F
  induction F with
  | zero => intro h l0 l1 l2 l3 l4 hq; rw [D_X8_inWay_14] at hq; cases hq
  | succ F ih =>
    intro h l0 l1 l2 l3 l4 hq
    rw [D_X8_inWay_14] at hq
    refine st_iload (pc := 14) dX8_inWay_14 rfl ?_
    refine st_bipush (pc := 16) (v := (40 : Int32)) dX8_inWay_16 (by decide) ?_
    refine bd_icmp_ge (pc := 18) (tgt := 46) hq dX8_inWay_18 (by decide) (fun _ hq => ?_) (fun _ hq => ?_)
    ·
      refine st_iload_n (pc := 46) dX8_inWay_46 rfl ?_
      exact bd_iret (pc := 47) hq dX8_inWay_47 rfl
    ·
      refine st_iload_n (pc := 21) dX8_inWay_21 rfl ?_
      refine st_aload_n (pc := 22) dX8_inWay_22 rfl ?_
      refine bd_getr (pc := 23) hq dX8_inWay_23 fl_8_32_8 rfl (fun v1 hq => ?_)
      refine st_iload_n (pc := 26) dX8_inWay_26 rfl ?_
      refine st_bipush (pc := 27) (v := (40 : Int32)) dX8_inWay_27 (by decide) ?_
      refine st_imul (pc := 29) dX8_inWay_29 ?_
      refine st_iload (pc := 30) dX8_inWay_30 rfl ?_
      refine st_iadd (pc := 32) dX8_inWay_32 ?_
      refine st_iconst (pc := 33) (v := (5 : Int32)) dX8_inWay_33 rfl ?_
      refine st_imul (pc := 34) dX8_inWay_34 ?_
      refine st_iload_n (pc := 35) dX8_inWay_35 rfl ?_
      refine st_iadd (pc := 36) dX8_inWay_36 ?_
      refine bd_iald (pc := 37) hq dX8_inWay_37 (fun v2 hq => ?_)
      refine st_iadd (pc := 38) dX8_inWay_38 ?_
      refine st_istore_n (pc := 39) (lv' := [some (.ref l0), some (.int l1), some (.int l2), some (.int (l3 + v2)), some (.int l4)]) dX8_inWay_39 rfl (by decide) rfl ?_
      refine st_iinc (pc := 40) (lv' := [some (.ref l0), some (.int l1), some (.int l2), some (.int (l3 + v2)), some (.int (l4 + Int32.ofInt (1)))]) dX8_inWay_40 rfl rfl (by decide) rfl ?_
      refine st_goto (pc := 43) (tgt := 14) dX8_inWay_43 (by decide) ?_
      exact ih _ _ _ _ _ _ hq
def D_X8_inWay (N : Nat) (h : mh_H) (l0 : Nat) (l1 : Int32) (l2 : Int32) : Option (Int32 × mh_H) :=
  (gR h 8 l0 7).bind fun v1 =>
  (aI h v1 ((l1 * (5 : Int32)) + l2)).bind fun v2 =>
  D_X8_inWay_14 N N h l0 l1 l2 v2 (0 : Int32)
set_option maxHeartbeats 4000000 in
set_option maxRecDepth 100000 in
theorem T_X8_inWay {P : mh_E → Prop} {N d : Nat} (hd : 1 ≤ d) {z : (Int32 × mh_H)} {h : mh_H} {l0 : Nat} {l1 : Int32} {l2 : Int32} (hq : D_X8_inWay N h l0 l1 l2 = some z) : mh_go P d mX8_inWay 0 [some (.ref l0), some (.int l1), some (.int l2), none, none] [] h (some (.int z.1)) z.2 := by
  unfold D_X8_inWay at hq
  refine st_aload_n (pc := 0) dX8_inWay_0 rfl ?_
  refine bd_getr (pc := 1) hq dX8_inWay_1 fl_8_35_8 rfl (fun v1 hq => ?_)
  refine st_iload_n (pc := 4) dX8_inWay_4 rfl ?_
  refine st_iconst (pc := 5) (v := (5 : Int32)) dX8_inWay_5 rfl ?_
  refine st_imul (pc := 6) dX8_inWay_6 ?_
  refine st_iload_n (pc := 7) dX8_inWay_7 rfl ?_
  refine st_iadd (pc := 8) dX8_inWay_8 ?_
  refine bd_iald (pc := 9) hq dX8_inWay_9 (fun v2 hq => ?_)
  refine st_istore_n (pc := 10) (lv' := [some (.ref l0), some (.int l1), some (.int l2), some (.int v2), none]) dX8_inWay_10 rfl (by decide) rfl ?_
  refine st_iconst (pc := 11) (v := (0 : Int32)) dX8_inWay_11 rfl ?_
  refine st_istore (pc := 12) (lv' := [some (.ref l0), some (.int l1), some (.int l2), some (.int v2), some (.int (0 : Int32))]) dX8_inWay_12 rfl (by decide) rfl ?_
  exact T_X8_inWay_14 hd N _ _ _ _ _ _ hq
-- HoleWater$Way.kind()I
theorem dX9_kind_0 : decode cX9_kind 0 = .ok (.iconst 0, 1) := by decide +kernel
theorem dX9_kind_1 : decode cX9_kind 1 = .ok (.ireturn, 1) := by decide +kernel
def D_X9_kind (N : Nat) (h : mh_H) (l0 : Nat) : Option (Int32 × mh_H) :=
  some ((0 : Int32), h)
set_option maxHeartbeats 4000000 in
set_option maxRecDepth 100000 in
theorem T_X9_kind {P : mh_E → Prop} {N d : Nat} (hd : 1 ≤ d) {z : (Int32 × mh_H)} {h : mh_H} {l0 : Nat} (hq : D_X9_kind N h l0 = some z) : mh_go P d mX9_kind 0 [some (.ref l0)] [] h (some (.int z.1)) z.2 := by
  unfold D_X9_kind at hq
  refine st_iconst (pc := 0) (v := (0 : Int32)) dX9_kind_0 rfl ?_
  exact bd_iret (pc := 1) hq dX9_kind_1 rfl
-- HoleWater.wayIs(II)I
theorem dX11_wayIs_0 : decode cX11_wayIs 0 = .ok (.aload_n 0, 1) := by decide +kernel
theorem dX11_wayIs_1 : decode cX11_wayIs 1 = .ok (.getfield 12, 3) := by decide +kernel
theorem dX11_wayIs_4 : decode cX11_wayIs 4 = .ok (.iload_n 1, 1) := by decide +kernel
theorem dX11_wayIs_5 : decode cX11_wayIs 5 = .ok (.invokevirtual 127, 3) := by decide +kernel
theorem dX11_wayIs_8 : decode cX11_wayIs 8 = .ok (.ifCond .ne 9, 3) := by decide +kernel
theorem dX11_wayIs_11 : decode cX11_wayIs 11 = .ok (.aload_n 0, 1) := by decide +kernel
theorem dX11_wayIs_12 : decode cX11_wayIs 12 = .ok (.iconst 1, 1) := by decide +kernel
theorem dX11_wayIs_13 : decode cX11_wayIs 13 = .ok (.invokevirtual 66, 3) := by decide +kernel
theorem dX11_wayIs_16 : decode cX11_wayIs 16 = .ok (.ireturn, 1) := by decide +kernel
theorem dX11_wayIs_17 : decode cX11_wayIs 17 = .ok (.aload_n 0, 1) := by decide +kernel
theorem dX11_wayIs_18 : decode cX11_wayIs 18 = .ok (.getfield 12, 3) := by decide +kernel
theorem dX11_wayIs_21 : decode cX11_wayIs 21 = .ok (.getfield 130, 3) := by decide +kernel
theorem dX11_wayIs_24 : decode cX11_wayIs 24 = .ok (.iload_n 1, 1) := by decide +kernel
theorem dX11_wayIs_25 : decode cX11_wayIs 25 = .ok (.aaload, 1) := by decide +kernel
theorem dX11_wayIs_26 : decode cX11_wayIs 26 = .ok (.astore_n 3, 1) := by decide +kernel
theorem dX11_wayIs_27 : decode cX11_wayIs 27 = .ok (.iload_n 2, 1) := by decide +kernel
theorem dX11_wayIs_28 : decode cX11_wayIs 28 = .ok (.tableswitch 87 0 6 #[44, 49, 54, 59, 64, 69, 74], 44) := by decide +kernel
theorem dX11_wayIs_72 : decode cX11_wayIs 72 = .ok (.aload_n 3, 1) := by decide +kernel
theorem dX11_wayIs_73 : decode cX11_wayIs 73 = .ok (.invokevirtual 144, 3) := by decide +kernel
theorem dX11_wayIs_76 : decode cX11_wayIs 76 = .ok (.ireturn, 1) := by decide +kernel
theorem dX11_wayIs_77 : decode cX11_wayIs 77 = .ok (.aload_n 3, 1) := by decide +kernel
theorem dX11_wayIs_78 : decode cX11_wayIs 78 = .ok (.getfield 147, 3) := by decide +kernel
theorem dX11_wayIs_81 : decode cX11_wayIs 81 = .ok (.ireturn, 1) := by decide +kernel
theorem dX11_wayIs_82 : decode cX11_wayIs 82 = .ok (.aload_n 3, 1) := by decide +kernel
theorem dX11_wayIs_83 : decode cX11_wayIs 83 = .ok (.getfield 150, 3) := by decide +kernel
theorem dX11_wayIs_86 : decode cX11_wayIs 86 = .ok (.ireturn, 1) := by decide +kernel
theorem dX11_wayIs_87 : decode cX11_wayIs 87 = .ok (.aload_n 3, 1) := by decide +kernel
theorem dX11_wayIs_88 : decode cX11_wayIs 88 = .ok (.getfield 153, 3) := by decide +kernel
theorem dX11_wayIs_91 : decode cX11_wayIs 91 = .ok (.ireturn, 1) := by decide +kernel
theorem dX11_wayIs_92 : decode cX11_wayIs 92 = .ok (.aload_n 3, 1) := by decide +kernel
theorem dX11_wayIs_93 : decode cX11_wayIs 93 = .ok (.getfield 156, 3) := by decide +kernel
theorem dX11_wayIs_96 : decode cX11_wayIs 96 = .ok (.ireturn, 1) := by decide +kernel
theorem dX11_wayIs_97 : decode cX11_wayIs 97 = .ok (.aload_n 3, 1) := by decide +kernel
theorem dX11_wayIs_98 : decode cX11_wayIs 98 = .ok (.invokevirtual 138, 3) := by decide +kernel
theorem dX11_wayIs_101 : decode cX11_wayIs 101 = .ok (.ireturn, 1) := by decide +kernel
theorem dX11_wayIs_102 : decode cX11_wayIs 102 = .ok (.aload_n 0, 1) := by decide +kernel
theorem dX11_wayIs_103 : decode cX11_wayIs 103 = .ok (.getfield 12, 3) := by decide +kernel
theorem dX11_wayIs_106 : decode cX11_wayIs 106 = .ok (.getfield 90, 3) := by decide +kernel
theorem dX11_wayIs_109 : decode cX11_wayIs 109 = .ok (.iload_n 1, 1) := by decide +kernel
theorem dX11_wayIs_110 : decode cX11_wayIs 110 = .ok (.iconst 0, 1) := by decide +kernel
theorem dX11_wayIs_111 : decode cX11_wayIs 111 = .ok (.invokevirtual 159, 3) := by decide +kernel
theorem dX11_wayIs_114 : decode cX11_wayIs 114 = .ok (.ireturn, 1) := by decide +kernel
theorem dX11_wayIs_115 : decode cX11_wayIs 115 = .ok (.aload_n 0, 1) := by decide +kernel
theorem dX11_wayIs_116 : decode cX11_wayIs 116 = .ok (.iconst 1, 1) := by decide +kernel
theorem dX11_wayIs_117 : decode cX11_wayIs 117 = .ok (.invokevirtual 66, 3) := by decide +kernel
theorem dX11_wayIs_120 : decode cX11_wayIs 120 = .ok (.ireturn, 1) := by decide +kernel
def V_Way_kind (N : Nat) (h : mh_H) (b : Nat) : Option (Int32 × mh_H) :=
  if b < mh_n h ∧ mh_k h b = 11 then D_X9_kind N h b
  else if b < mh_n h ∧ mh_k h b = 2 then D_X0_kind N h b
  else if b < mh_n h ∧ mh_k h b = 4 then D_X2_kind N h b
  else if b < mh_n h ∧ mh_k h b = 5 then D_X3_kind N h b
  else if b < mh_n h ∧ mh_k h b = 6 then D_X4_kind N h b
  else if b < mh_n h ∧ mh_k h b = 9 then D_X7_kind N h b
  else none
set_option maxHeartbeats 4000000 in
set_option maxRecDepth 100000 in
theorem S_X11_wayIs_73 {P : mh_E → Prop} {N d : Nat} {lv : List (Option Value)} {rest : List Value} {h : mh_H} {b : Nat} {q : (Int32 × mh_H)} {r : Option Value} {h' : mh_H} (hd : 3 ≤ d) (hW : (rest.map fun v => v.category).sum ≤ 8) (e : V_Way_kind N h b = some q) (k : mh_go P d mX11_wayIs 76 lv (.int q.1 :: rest) q.2 r h') : mh_go P d mX11_wayIs 73 lv (.ref b :: rest) h r h' := by
  unfold V_Way_kind at e
  rcases mh_or e with ⟨⟨hb, hk⟩, e⟩ | ⟨-, e⟩
  · exact st_invV (pc := 73) (ci := 9) (vs := []) dX11_wayIs_73 okX9_kind (by decide) hk hb wd_455 wd_456 wd_457 pdX9_kind rfl rfl rfl rfl (Nat.le_trans (by decide) hd) hW (T_X9_kind (Nat.le_refl _) e) rfl k
  rcases mh_or e with ⟨⟨hb, hk⟩, e⟩ | ⟨-, e⟩
  · exact st_invU (pc := 73) (ci := 0) (owner := "HoleWater$Way") (x := ⟨"HoleWater$Way", "kind", "()I"⟩) (vs := []) dX11_wayIs_73 okX0_kind (by decide) hk hb wd_455 wd_458 wd_456 wd_474 wd_460 wd_459 ⟨by decide, by decide⟩ pdX0_kind rfl rfl rfl rfl (Nat.le_trans (by decide) hd) hW (T_X0_kind (Nat.le_refl _) e) rfl k
  rcases mh_or e with ⟨⟨hb, hk⟩, e⟩ | ⟨-, e⟩
  · exact st_invU (pc := 73) (ci := 2) (owner := "HoleWater$Way") (x := ⟨"HoleWater$Way", "kind", "()I"⟩) (vs := []) dX11_wayIs_73 okX2_kind (by decide) hk hb wd_455 wd_458 wd_456 wd_474 wd_463 wd_462 ⟨by decide, by decide⟩ pdX2_kind rfl rfl rfl rfl (Nat.le_trans (by decide) hd) hW (T_X2_kind (Nat.le_refl _) e) rfl k
  rcases mh_or e with ⟨⟨hb, hk⟩, e⟩ | ⟨-, e⟩
  · exact st_invU (pc := 73) (ci := 3) (owner := "HoleWater$Way") (x := ⟨"HoleWater$Way", "kind", "()I"⟩) (vs := []) dX11_wayIs_73 okX3_kind (by decide) hk hb wd_455 wd_458 wd_456 wd_474 wd_466 wd_465 ⟨by decide, by decide⟩ pdX3_kind rfl rfl rfl rfl (Nat.le_trans (by decide) hd) hW (T_X3_kind (Nat.le_refl _) e) rfl k
  rcases mh_or e with ⟨⟨hb, hk⟩, e⟩ | ⟨-, e⟩
  · exact st_invU (pc := 73) (ci := 4) (owner := "HoleWater$Way") (x := ⟨"HoleWater$Way", "kind", "()I"⟩) (vs := []) dX11_wayIs_73 okX4_kind (by decide) hk hb wd_455 wd_458 wd_456 wd_474 wd_469 wd_468 ⟨by decide, by decide⟩ pdX4_kind rfl rfl rfl rfl (Nat.le_trans (by decide) hd) hW (T_X4_kind (Nat.le_refl _) e) rfl k
  rcases mh_or e with ⟨⟨hb, hk⟩, e⟩ | ⟨-, e⟩
  · exact st_invU (pc := 73) (ci := 7) (owner := "HoleWater$Way") (x := ⟨"HoleWater$Way", "kind", "()I"⟩) (vs := []) dX11_wayIs_73 okX7_kind (by decide) hk hb wd_455 wd_458 wd_456 wd_474 wd_472 wd_471 ⟨by decide, by decide⟩ pdX7_kind rfl rfl rfl rfl (Nat.le_trans (by decide) hd) hW (T_X7_kind (Nat.le_refl _) e) rfl k
  cases e
set_option maxHeartbeats 4000000 in
set_option maxRecDepth 100000 in
theorem S_X11_wayIs_98 {P : mh_E → Prop} {N d : Nat} {lv : List (Option Value)} {rest : List Value} {h : mh_H} {b : Nat} {q : (Int32 × mh_H)} {r : Option Value} {h' : mh_H} (hd : 3 ≤ d) (hW : (rest.map fun v => v.category).sum ≤ 8) (e : V_Way_takes N h b = some q) (k : mh_go P d mX11_wayIs 101 lv (.int q.1 :: rest) q.2 r h') : mh_go P d mX11_wayIs 98 lv (.ref b :: rest) h r h' := by
  unfold V_Way_takes at e
  rcases mh_or e with ⟨⟨hb, hk⟩, e⟩ | ⟨-, e⟩
  · exact st_invV (pc := 98) (ci := 9) (vs := []) dX11_wayIs_98 okX9_takes (by decide) hk hb wd_435 wd_436 wd_437 pdX9_takes rfl rfl rfl rfl (Nat.le_trans (by decide) hd) hW (T_X9_takes (Nat.le_refl _) e) rfl k
  rcases mh_or e with ⟨⟨hb, hk⟩, e⟩ | ⟨-, e⟩
  · exact st_invU (pc := 98) (ci := 0) (owner := "HoleWater$Way") (x := ⟨"HoleWater$Way", "takes", "()I"⟩) (vs := []) dX11_wayIs_98 okX7_takes (by decide) hk hb wd_435 wd_438 wd_436 wd_450 wd_440 wd_439 ⟨by decide, by decide⟩ pdX7_takes rfl rfl rfl rfl (Nat.le_trans (by decide) hd) hW (T_X7_takes (Nat.le_refl _) e) rfl k
  rcases mh_or e with ⟨⟨hb, hk⟩, e⟩ | ⟨-, e⟩
  · exact st_invU (pc := 98) (ci := 2) (owner := "HoleWater$Way") (x := ⟨"HoleWater$Way", "takes", "()I"⟩) (vs := []) dX11_wayIs_98 okX2_takes (by decide) hk hb wd_435 wd_438 wd_436 wd_450 wd_444 wd_443 ⟨by decide, by decide⟩ pdX2_takes rfl rfl rfl rfl (Nat.le_trans (by decide) hd) hW (T_X2_takes (Nat.le_refl _) e) rfl k
  rcases mh_or e with ⟨⟨hb, hk⟩, e⟩ | ⟨-, e⟩
  · exact st_invU (pc := 98) (ci := 3) (owner := "HoleWater$Way") (x := ⟨"HoleWater$Way", "takes", "()I"⟩) (vs := []) dX11_wayIs_98 okX2_takes (by decide) hk hb wd_435 wd_438 wd_436 wd_450 wd_444 wd_447 ⟨by decide, by decide⟩ pdX2_takes rfl rfl rfl rfl (Nat.le_trans (by decide) hd) hW (T_X2_takes (Nat.le_refl _) e) rfl k
  rcases mh_or e with ⟨⟨hb, hk⟩, e⟩ | ⟨-, e⟩
  · exact st_invV (pc := 98) (ci := 4) (vs := []) dX11_wayIs_98 okX9_takes (by decide) hk hb wd_435 wd_436 wd_448 pdX9_takes rfl rfl rfl rfl (Nat.le_trans (by decide) hd) hW (T_X9_takes (Nat.le_refl _) e) rfl k
  rcases mh_or e with ⟨⟨hb, hk⟩, e⟩ | ⟨-, e⟩
  · exact st_invU (pc := 98) (ci := 7) (owner := "HoleWater$Way") (x := ⟨"HoleWater$Way", "takes", "()I"⟩) (vs := []) dX11_wayIs_98 okX7_takes (by decide) hk hb wd_435 wd_438 wd_436 wd_450 wd_440 wd_449 ⟨by decide, by decide⟩ pdX7_takes rfl rfl rfl rfl (Nat.le_trans (by decide) hd) hW (T_X7_takes (Nat.le_refl _) e) rfl k
  cases e
def D_X11_wayIs (N : Nat) (h : mh_H) (l0 : Nat) (l1 : Int32) (l2 : Int32) : Option (Int32 × mh_H) :=
  (gR h 11 l0 0).bind fun v1 =>
  kO h 10 v1 <|
  (D_X10_isWay N h v1 l1).bind fun q2 =>
  if q2.1 = 0 then (kO q2.2 11 l0 <|
  (D_X11_error N q2.2 l0 (1 : Int32)).bind fun q3 =>
  some (q3.1, q3.2))
  else ((gR q2.2 11 l0 0).bind fun v3 =>
  (gR q2.2 10 v3 6).bind fun v4 =>
  (aR q2.2 v4 l1).bind fun v5 =>
  if l2 = 0 then ((V_Way_kind N q2.2 v5).bind fun q6 =>
  some (q6.1, q6.2))
  else if l2 = 1 then ((gW q2.2 v5 0).bind fun v6 =>
  some (v6, q2.2))
  else if l2 = 2 then ((gW q2.2 v5 1).bind fun v6 =>
  some (v6, q2.2))
  else if l2 = 3 then ((gW q2.2 v5 2).bind fun v6 =>
  some (v6, q2.2))
  else if l2 = 4 then ((gW q2.2 v5 3).bind fun v6 =>
  some (v6, q2.2))
  else if l2 = 5 then ((V_Way_takes N q2.2 v5).bind fun q6 =>
  some (q6.1, q6.2))
  else if l2 = 6 then ((gR q2.2 11 l0 0).bind fun v6 =>
  (gR q2.2 10 v6 7).bind fun v7 =>
  kO q2.2 8 v7 <|
  (D_X8_inWay N q2.2 v7 l1 (0 : Int32)).bind fun q8 =>
  some (q8.1, q8.2))
  else (kO q2.2 11 l0 <|
  (D_X11_error N q2.2 l0 (1 : Int32)).bind fun q6 =>
  some (q6.1, q6.2)))
set_option maxHeartbeats 4000000 in
set_option maxRecDepth 100000 in
theorem T_X11_wayIs {P : mh_E → Prop} {N d : Nat} (hd : 3 ≤ d) {z : (Int32 × mh_H)} {h : mh_H} {l0 : Nat} {l1 : Int32} {l2 : Int32} (hq : D_X11_wayIs N h l0 l1 l2 = some z) : mh_go P d mX11_wayIs 0 [some (.ref l0), some (.int l1), some (.int l2), none] [] h (some (.int z.1)) z.2 := by
  unfold D_X11_wayIs at hq
  refine st_aload_n (pc := 0) dX11_wayIs_0 rfl ?_
  refine bd_getr (pc := 1) hq dX11_wayIs_1 fl_11_12_11 rfl (fun v1 hq => ?_)
  refine st_iload_n (pc := 4) dX11_wayIs_4 rfl ?_
  obtain ⟨⟨hbq2, hkq2⟩, hq⟩ := mh_oi hq
  obtain ⟨q2, e2, hq⟩ := mh_ob hq
  refine st_invV (pc := 5) (ci := 10) (vs := [.int l1]) (rest := []) (st2 := [.int q2.1]) dX11_wayIs_5 okX10_isWay (by decide) hkq2 hbq2 wd_428 wd_429 wd_430 pdX10_isWay rfl rfl rfl rfl (Nat.le_trans (by decide) hd) (Nat.le_of_ble_eq_true rfl) (T_X10_isWay (Nat.le_refl _) e2) rfl ?_
  refine bd_if_ne (pc := 8) (tgt := 17) hq dX11_wayIs_8 (by decide) (fun _ hq => ?_) (fun _ hq => ?_)
  ·
    refine st_aload_n (pc := 11) dX11_wayIs_11 rfl ?_
    refine st_iconst (pc := 12) (v := (1 : Int32)) dX11_wayIs_12 rfl ?_
    obtain ⟨⟨hbq3, hkq3⟩, hq⟩ := mh_oi hq
    obtain ⟨q3, e3, hq⟩ := mh_ob hq
    refine st_invV (pc := 13) (ci := 11) (vs := [.int (1 : Int32)]) (rest := []) (st2 := [.int q3.1]) dX11_wayIs_13 okX11_error (by decide) hkq3 hbq3 wd_326 wd_328 wp_0 pdX11_error rfl rfl rfl rfl (Nat.le_trans (by decide) hd) (Nat.le_of_ble_eq_true rfl) (T_X11_error (Nat.le_refl _) e3) rfl ?_
    exact bd_iret (pc := 16) hq dX11_wayIs_16 rfl
  ·
    refine st_aload_n (pc := 17) dX11_wayIs_17 rfl ?_
    refine bd_getr (pc := 18) hq dX11_wayIs_18 fl_11_12_11 rfl (fun v3 hq => ?_)
    refine bd_getr (pc := 21) hq dX11_wayIs_21 fl_11_130_10 rfl (fun v4 hq => ?_)
    refine st_iload_n (pc := 24) dX11_wayIs_24 rfl ?_
    refine bd_aald (pc := 25) hq dX11_wayIs_25 (fun v5 hq => ?_)
    refine st_astore_n (pc := 26) (lv' := [some (.ref l0), some (.int l1), some (.int l2), some (.ref v5)]) dX11_wayIs_26 rfl (by decide) rfl ?_
    refine st_iload_n (pc := 27) dX11_wayIs_27 rfl ?_
    by_cases c0 : l2 = 0
    ·
      rw [if_pos c0] at hq
      refine st_tin (pc := 28) (tgt := 72) dX11_wayIs_28 (by rw [c0]; decide) (by rw [c0]; decide) (by rw [c0]; rfl) (by decide) ?_
      refine st_aload_n (pc := 72) dX11_wayIs_72 rfl ?_
      obtain ⟨q6, e6, hq⟩ := mh_ob hq
      refine S_X11_wayIs_73 (rest := []) hd (Nat.le_of_ble_eq_true rfl) e6 ?_
      exact bd_iret (pc := 76) hq dX11_wayIs_76 rfl
    ·
      rw [if_neg c0] at hq
      by_cases c1 : l2 = 1
      ·
        rw [if_pos c1] at hq
        refine st_tin (pc := 28) (tgt := 77) dX11_wayIs_28 (by rw [c1]; decide) (by rw [c1]; decide) (by rw [c1]; rfl) (by decide) ?_
        refine st_aload_n (pc := 77) dX11_wayIs_77 rfl ?_
        refine bd_getw (pc := 78) hq dX11_wayIs_78 flw_11_147 (by decide) (fun v6 hq => ?_)
        exact bd_iret (pc := 81) hq dX11_wayIs_81 rfl
      ·
        rw [if_neg c1] at hq
        by_cases c2 : l2 = 2
        ·
          rw [if_pos c2] at hq
          refine st_tin (pc := 28) (tgt := 82) dX11_wayIs_28 (by rw [c2]; decide) (by rw [c2]; decide) (by rw [c2]; rfl) (by decide) ?_
          refine st_aload_n (pc := 82) dX11_wayIs_82 rfl ?_
          refine bd_getw (pc := 83) hq dX11_wayIs_83 flw_11_150 (by decide) (fun v6 hq => ?_)
          exact bd_iret (pc := 86) hq dX11_wayIs_86 rfl
        ·
          rw [if_neg c2] at hq
          by_cases c3 : l2 = 3
          ·
            rw [if_pos c3] at hq
            refine st_tin (pc := 28) (tgt := 87) dX11_wayIs_28 (by rw [c3]; decide) (by rw [c3]; decide) (by rw [c3]; rfl) (by decide) ?_
            refine st_aload_n (pc := 87) dX11_wayIs_87 rfl ?_
            refine bd_getw (pc := 88) hq dX11_wayIs_88 flw_11_153 (by decide) (fun v6 hq => ?_)
            exact bd_iret (pc := 91) hq dX11_wayIs_91 rfl
          ·
            rw [if_neg c3] at hq
            by_cases c4 : l2 = 4
            ·
              rw [if_pos c4] at hq
              refine st_tin (pc := 28) (tgt := 92) dX11_wayIs_28 (by rw [c4]; decide) (by rw [c4]; decide) (by rw [c4]; rfl) (by decide) ?_
              refine st_aload_n (pc := 92) dX11_wayIs_92 rfl ?_
              refine bd_getw (pc := 93) hq dX11_wayIs_93 flw_11_156 (by decide) (fun v6 hq => ?_)
              exact bd_iret (pc := 96) hq dX11_wayIs_96 rfl
            ·
              rw [if_neg c4] at hq
              by_cases c5 : l2 = 5
              ·
                rw [if_pos c5] at hq
                refine st_tin (pc := 28) (tgt := 97) dX11_wayIs_28 (by rw [c5]; decide) (by rw [c5]; decide) (by rw [c5]; rfl) (by decide) ?_
                refine st_aload_n (pc := 97) dX11_wayIs_97 rfl ?_
                obtain ⟨q6, e6, hq⟩ := mh_ob hq
                refine S_X11_wayIs_98 (rest := []) hd (Nat.le_of_ble_eq_true rfl) e6 ?_
                exact bd_iret (pc := 101) hq dX11_wayIs_101 rfl
              ·
                rw [if_neg c5] at hq
                by_cases c6 : l2 = 6
                ·
                  rw [if_pos c6] at hq
                  refine st_tin (pc := 28) (tgt := 102) dX11_wayIs_28 (by rw [c6]; decide) (by rw [c6]; decide) (by rw [c6]; rfl) (by decide) ?_
                  refine st_aload_n (pc := 102) dX11_wayIs_102 rfl ?_
                  refine bd_getr (pc := 103) hq dX11_wayIs_103 fl_11_12_11 rfl (fun v6 hq => ?_)
                  refine bd_getr (pc := 106) hq dX11_wayIs_106 fl_11_90_10 rfl (fun v7 hq => ?_)
                  refine st_iload_n (pc := 109) dX11_wayIs_109 rfl ?_
                  refine st_iconst (pc := 110) (v := (0 : Int32)) dX11_wayIs_110 rfl ?_
                  obtain ⟨⟨hbq8, hkq8⟩, hq⟩ := mh_oi hq
                  obtain ⟨q8, e8, hq⟩ := mh_ob hq
                  refine st_invV (pc := 111) (ci := 8) (vs := [.int l1, .int (0 : Int32)]) (rest := []) (st2 := [.int q8.1]) dX11_wayIs_111 okX8_inWay (by decide) hkq8 hbq8 wd_475 wd_476 wd_477 pdX8_inWay rfl rfl rfl rfl (Nat.le_trans (by decide) hd) (Nat.le_of_ble_eq_true rfl) (T_X8_inWay (Nat.le_refl _) e8) rfl ?_
                  exact bd_iret (pc := 114) hq dX11_wayIs_114 rfl
                ·
                  rw [if_neg c6] at hq
                  refine st_tout (pc := 28) (tgt := 115) dX11_wayIs_28 (by have e0 := lv_neT c0 (k := 0) (a := 0) (by decide); have e1 := lv_neT c1 (k := 1) (a := 1) (by decide); have e2 := lv_neT c2 (k := 2) (a := 2) (by decide); have e3 := lv_neT c3 (k := 3) (a := 3) (by decide); have e4 := lv_neT c4 (k := 4) (a := 4) (by decide); have e5 := lv_neT c5 (k := 5) (a := 5) (by decide); have e6 := lv_neT c6 (k := 6) (a := 6) (by decide); omega) (by decide) ?_
                  refine st_aload_n (pc := 115) dX11_wayIs_115 rfl ?_
                  refine st_iconst (pc := 116) (v := (1 : Int32)) dX11_wayIs_116 rfl ?_
                  obtain ⟨⟨hbq6, hkq6⟩, hq⟩ := mh_oi hq
                  obtain ⟨q6, e6, hq⟩ := mh_ob hq
                  refine st_invV (pc := 117) (ci := 11) (vs := [.int (1 : Int32)]) (rest := []) (st2 := [.int q6.1]) dX11_wayIs_117 okX11_error (by decide) hkq6 hbq6 wd_326 wd_328 wp_0 pdX11_error rfl rfl rfl rfl (Nat.le_trans (by decide) hd) (Nat.le_of_ble_eq_true rfl) (T_X11_error (Nat.le_refl _) e6) rfl ?_
                  exact bd_iret (pc := 120) hq dX11_wayIs_120 rfl
-- HoleWater$World.bitsOf(I)I
theorem dX10_bitsOf_28 : decode cX10_bitsOf 28 = .ok (.iinc 3 1, 3) := by decide +kernel
theorem dX10_bitsOf_31 : decode cX10_bitsOf 31 = .ok (.goto (-27), 3) := by decide +kernel
theorem dX10_bitsOf_4 : decode cX10_bitsOf 4 = .ok (.iload_n 3, 1) := by decide +kernel
theorem dX10_bitsOf_5 : decode cX10_bitsOf 5 = .ok (.aload_n 0, 1) := by decide +kernel
theorem dX10_bitsOf_6 : decode cX10_bitsOf 6 = .ok (.getfield 9, 3) := by decide +kernel
theorem dX10_bitsOf_9 : decode cX10_bitsOf 9 = .ok (.if_icmp .ge 25, 3) := by decide +kernel
theorem dX10_bitsOf_34 : decode cX10_bitsOf 34 = .ok (.iload_n 2, 1) := by decide +kernel
theorem dX10_bitsOf_35 : decode cX10_bitsOf 35 = .ok (.ireturn, 1) := by decide +kernel
theorem dX10_bitsOf_12 : decode cX10_bitsOf 12 = .ok (.aload_n 0, 1) := by decide +kernel
theorem dX10_bitsOf_13 : decode cX10_bitsOf 13 = .ok (.getfield 21, 3) := by decide +kernel
theorem dX10_bitsOf_16 : decode cX10_bitsOf 16 = .ok (.iload_n 3, 1) := by decide +kernel
theorem dX10_bitsOf_17 : decode cX10_bitsOf 17 = .ok (.iaload, 1) := by decide +kernel
theorem dX10_bitsOf_18 : decode cX10_bitsOf 18 = .ok (.iload_n 1, 1) := by decide +kernel
theorem dX10_bitsOf_19 : decode cX10_bitsOf 19 = .ok (.if_icmp .ne 9, 3) := by decide +kernel
theorem dX10_bitsOf_22 : decode cX10_bitsOf 22 = .ok (.iload_n 2, 1) := by decide +kernel
theorem dX10_bitsOf_23 : decode cX10_bitsOf 23 = .ok (.iconst 1, 1) := by decide +kernel
theorem dX10_bitsOf_24 : decode cX10_bitsOf 24 = .ok (.iload_n 3, 1) := by decide +kernel
theorem dX10_bitsOf_25 : decode cX10_bitsOf 25 = .ok (.ishl, 1) := by decide +kernel
theorem dX10_bitsOf_26 : decode cX10_bitsOf 26 = .ok (.ior, 1) := by decide +kernel
theorem dX10_bitsOf_27 : decode cX10_bitsOf 27 = .ok (.istore_n 2, 1) := by decide +kernel
theorem dX10_bitsOf_0 : decode cX10_bitsOf 0 = .ok (.iconst 0, 1) := by decide +kernel
theorem dX10_bitsOf_1 : decode cX10_bitsOf 1 = .ok (.istore_n 2, 1) := by decide +kernel
theorem dX10_bitsOf_2 : decode cX10_bitsOf 2 = .ok (.iconst 0, 1) := by decide +kernel
theorem dX10_bitsOf_3 : decode cX10_bitsOf 3 = .ok (.istore_n 3, 1) := by decide +kernel
def D_X10_bitsOf_28 (N : Nat) (k4 : mh_H → Nat → Int32 → Int32 → Int32 → Option (Int32 × mh_H)) (h : mh_H) (l0 : Nat) (l1 : Int32) (l2 : Int32) (l3 : Int32) : Option (Int32 × mh_H) :=
  k4 h l0 l1 l2 (l3 + Int32.ofInt (1))
set_option maxHeartbeats 4000000 in
set_option maxRecDepth 100000 in
theorem T_X10_bitsOf_28 {P : mh_E → Prop} {N d : Nat} (hd : 1 ≤ d) {z : (Int32 × mh_H)} {k4 : mh_H → Nat → Int32 → Int32 → Int32 → Option (Int32 × mh_H)} (hk4 : ∀ (h : mh_H) (l0 : Nat) (l1 : Int32) (l2 : Int32) (l3 : Int32), k4 h l0 l1 l2 l3 = some z → mh_go P d mX10_bitsOf 4 [some (.ref l0), some (.int l1), some (.int l2), some (.int l3)] [] h (some (.int z.1)) z.2) {h : mh_H} {l0 : Nat} {l1 : Int32} {l2 : Int32} {l3 : Int32} (hq : D_X10_bitsOf_28 N k4 h l0 l1 l2 l3 = some z) : mh_go P d mX10_bitsOf 28 [some (.ref l0), some (.int l1), some (.int l2), some (.int l3)] [] h (some (.int z.1)) z.2 := by
  unfold D_X10_bitsOf_28 at hq
  refine st_iinc (pc := 28) (lv' := [some (.ref l0), some (.int l1), some (.int l2), some (.int (l3 + Int32.ofInt (1)))]) dX10_bitsOf_28 rfl rfl (by decide) rfl ?_
  refine st_goto (pc := 31) (tgt := 4) dX10_bitsOf_31 (by decide) ?_
  exact hk4 _ _ _ _ _ hq
def D_X10_bitsOf_4 (N : Nat) : Nat → mh_H → Nat → Int32 → Int32 → Int32 → Option (Int32 × mh_H)
  | 0, _, _, _, _, _ => none
  | F + 1, h, l0, l1, l2, l3 =>
    (gI h 10 l0 0).bind fun v1 =>
    if v1 ≤ l3 then (some (l2, h))
    else ((gR h 10 l0 3).bind fun v2 =>
    (aI h v2 l3).bind fun v3 =>
    if v3 = l1 then (D_X10_bitsOf_28 N (D_X10_bitsOf_4 N F) h l0 l1 (l2 ||| ((1 : Int32) <<< (l3 &&& 31))) l3)
    else (D_X10_bitsOf_28 N (D_X10_bitsOf_4 N F) h l0 l1 l2 l3))
set_option maxHeartbeats 4000000 in
set_option maxRecDepth 100000 in
theorem T_X10_bitsOf_4 {P : mh_E → Prop} {N d : Nat} (hd : 1 ≤ d) {z : (Int32 × mh_H)} : ∀ (F : Nat) (h : mh_H) (l0 : Nat) (l1 : Int32) (l2 : Int32) (l3 : Int32), D_X10_bitsOf_4 N F h l0 l1 l2 l3 = some z → mh_go P d mX10_bitsOf 4 [some (.ref l0), some (.int l1), some (.int l2), some (.int l3)] [] h (some (.int z.1)) z.2 := by
  intro F
  induction F with
  | zero => intro h l0 l1 l2 l3 hq; rw [D_X10_bitsOf_4] at hq; cases hq
  | succ F ih =>
    intro h l0 l1 l2 l3 hq
    rw [D_X10_bitsOf_4] at hq
    refine st_iload_n (pc := 4) dX10_bitsOf_4 rfl ?_
    refine st_aload_n (pc := 5) dX10_bitsOf_5 rfl ?_
    refine bd_geti (pc := 6) hq dX10_bitsOf_6 fl_10_9_10 rfl (fun v1 hq => ?_)
    refine bd_icmp_ge (pc := 9) (tgt := 34) hq dX10_bitsOf_9 (by decide) (fun _ hq => ?_) (fun _ hq => ?_)
    ·
      refine st_iload_n (pc := 34) dX10_bitsOf_34 rfl ?_
      exact bd_iret (pc := 35) hq dX10_bitsOf_35 rfl
    ·
      refine st_aload_n (pc := 12) dX10_bitsOf_12 rfl ?_
      refine bd_getr (pc := 13) hq dX10_bitsOf_13 fl_10_21_10 rfl (fun v2 hq => ?_)
      refine st_iload_n (pc := 16) dX10_bitsOf_16 rfl ?_
      refine bd_iald (pc := 17) hq dX10_bitsOf_17 (fun v3 hq => ?_)
      refine st_iload_n (pc := 18) dX10_bitsOf_18 rfl ?_
      refine bd_icmp_ne (pc := 19) (tgt := 28) hq dX10_bitsOf_19 (by decide) (fun _ hq => ?_) (fun _ hq => ?_)
      ·
        refine st_iload_n (pc := 22) dX10_bitsOf_22 rfl ?_
        refine st_iconst (pc := 23) (v := (1 : Int32)) dX10_bitsOf_23 rfl ?_
        refine st_iload_n (pc := 24) dX10_bitsOf_24 rfl ?_
        refine st_ishl (pc := 25) dX10_bitsOf_25 ?_
        refine st_ior (pc := 26) dX10_bitsOf_26 ?_
        refine st_istore_n (pc := 27) (lv' := [some (.ref l0), some (.int l1), some (.int (l2 ||| ((1 : Int32) <<< (l3 &&& 31)))), some (.int l3)]) dX10_bitsOf_27 rfl (by decide) rfl ?_
        exact T_X10_bitsOf_28 hd ih hq
      ·
        exact T_X10_bitsOf_28 hd ih hq
def D_X10_bitsOf (N : Nat) (h : mh_H) (l0 : Nat) (l1 : Int32) : Option (Int32 × mh_H) :=
  D_X10_bitsOf_4 N N h l0 l1 (0 : Int32) (0 : Int32)
set_option maxHeartbeats 4000000 in
set_option maxRecDepth 100000 in
theorem T_X10_bitsOf {P : mh_E → Prop} {N d : Nat} (hd : 1 ≤ d) {z : (Int32 × mh_H)} {h : mh_H} {l0 : Nat} {l1 : Int32} (hq : D_X10_bitsOf N h l0 l1 = some z) : mh_go P d mX10_bitsOf 0 [some (.ref l0), some (.int l1), none, none] [] h (some (.int z.1)) z.2 := by
  unfold D_X10_bitsOf at hq
  refine st_iconst (pc := 0) (v := (0 : Int32)) dX10_bitsOf_0 rfl ?_
  refine st_istore_n (pc := 1) (lv' := [some (.ref l0), some (.int l1), some (.int (0 : Int32)), none]) dX10_bitsOf_1 rfl (by decide) rfl ?_
  refine st_iconst (pc := 2) (v := (0 : Int32)) dX10_bitsOf_2 rfl ?_
  refine st_istore_n (pc := 3) (lv' := [some (.ref l0), some (.int l1), some (.int (0 : Int32)), some (.int (0 : Int32))]) dX10_bitsOf_3 rfl (by decide) rfl ?_
  exact T_X10_bitsOf_4 hd N _ _ _ _ _ hq
