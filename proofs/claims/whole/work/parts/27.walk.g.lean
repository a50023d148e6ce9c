-- HoleWater$World.copyOf(LHoleWater$World;)V
theorem dX10_copyOf_71 : decode cX10_copyOf 71 = .ok (.iload_n 2, 1) := by decide +kernel
theorem dX10_copyOf_72 : decode cX10_copyOf 72 = .ok (.bipush 24, 2) := by decide +kernel
theorem dX10_copyOf_74 : decode cX10_copyOf 74 = .ok (.if_icmp .ge 21, 3) := by decide +kernel
theorem dX10_copyOf_95 : decode cX10_copyOf 95 = .ok (.aload_n 0, 1) := by decide +kernel
theorem dX10_copyOf_96 : decode cX10_copyOf 96 = .ok (.getfield 40, 3) := by decide +kernel
theorem dX10_copyOf_99 : decode cX10_copyOf 99 = .ok (.aload_n 1, 1) := by decide +kernel
theorem dX10_copyOf_100 : decode cX10_copyOf 100 = .ok (.getfield 40, 3) := by decide +kernel
theorem dX10_copyOf_103 : decode cX10_copyOf 103 = .ok (.invokevirtual 78, 3) := by decide +kernel
theorem dX10_copyOf_106 : decode cX10_copyOf 106 = .ok (.aload_n 0, 1) := by decide +kernel
theorem dX10_copyOf_107 : decode cX10_copyOf 107 = .ok (.getfield 47, 3) := by decide +kernel
theorem dX10_copyOf_110 : decode cX10_copyOf 110 = .ok (.aload_n 1, 1) := by decide +kernel
theorem dX10_copyOf_111 : decode cX10_copyOf 111 = .ok (.getfield 47, 3) := by decide +kernel
theorem dX10_copyOf_114 : decode cX10_copyOf 114 = .ok (.invokevirtual 82, 3) := by decide +kernel
theorem dX10_copyOf_117 : decode cX10_copyOf 117 = .ok (.aload_n 0, 1) := by decide +kernel
theorem dX10_copyOf_118 : decode cX10_copyOf 118 = .ok (.getfield 56, 3) := by decide +kernel
theorem dX10_copyOf_121 : decode cX10_copyOf 121 = .ok (.aload_n 1, 1) := by decide +kernel
theorem dX10_copyOf_122 : decode cX10_copyOf 122 = .ok (.getfield 56, 3) := by decide +kernel
theorem dX10_copyOf_125 : decode cX10_copyOf 125 = .ok (.invokevirtual 85, 3) := by decide +kernel
theorem dX10_copyOf_128 : decode cX10_copyOf 128 = .ok (.aload_n 0, 1) := by decide +kernel
theorem dX10_copyOf_129 : decode cX10_copyOf 129 = .ok (.getfield 60, 3) := by decide +kernel
theorem dX10_copyOf_132 : decode cX10_copyOf 132 = .ok (.aload_n 1, 1) := by decide +kernel
theorem dX10_copyOf_133 : decode cX10_copyOf 133 = .ok (.getfield 60, 3) := by decide +kernel
theorem dX10_copyOf_136 : decode cX10_copyOf 136 = .ok (.invokevirtual 85, 3) := by decide +kernel
theorem dX10_copyOf_139 : decode cX10_copyOf 139 = .ok (.aload_n 0, 1) := by decide +kernel
theorem dX10_copyOf_140 : decode cX10_copyOf 140 = .ok (.getfield 63, 3) := by decide +kernel
theorem dX10_copyOf_143 : decode cX10_copyOf 143 = .ok (.aload_n 1, 1) := by decide +kernel
theorem dX10_copyOf_144 : decode cX10_copyOf 144 = .ok (.getfield 63, 3) := by decide +kernel
theorem dX10_copyOf_147 : decode cX10_copyOf 147 = .ok (.invokevirtual 85, 3) := by decide +kernel
theorem dX10_copyOf_150 : decode cX10_copyOf 150 = .ok (.aload_n 0, 1) := by decide +kernel
theorem dX10_copyOf_151 : decode cX10_copyOf 151 = .ok (.getfield 66, 3) := by decide +kernel
theorem dX10_copyOf_154 : decode cX10_copyOf 154 = .ok (.aload_n 1, 1) := by decide +kernel
theorem dX10_copyOf_155 : decode cX10_copyOf 155 = .ok (.getfield 66, 3) := by decide +kernel
theorem dX10_copyOf_158 : decode cX10_copyOf 158 = .ok (.invokevirtual 85, 3) := by decide +kernel
theorem dX10_copyOf_161 : decode cX10_copyOf 161 = .ok (.return_, 1) := by decide +kernel
theorem dX10_copyOf_77 : decode cX10_copyOf 77 = .ok (.aload_n 0, 1) := by decide +kernel
theorem dX10_copyOf_78 : decode cX10_copyOf 78 = .ok (.getfield 33, 3) := by decide +kernel
theorem dX10_copyOf_81 : decode cX10_copyOf 81 = .ok (.iload_n 2, 1) := by decide +kernel
theorem dX10_copyOf_82 : decode cX10_copyOf 82 = .ok (.aload_n 1, 1) := by decide +kernel
theorem dX10_copyOf_83 : decode cX10_copyOf 83 = .ok (.getfield 33, 3) := by decide +kernel
theorem dX10_copyOf_86 : decode cX10_copyOf 86 = .ok (.iload_n 2, 1) := by decide +kernel
theorem dX10_copyOf_87 : decode cX10_copyOf 87 = .ok (.aaload, 1) := by decide +kernel
theorem dX10_copyOf_88 : decode cX10_copyOf 88 = .ok (.aastore, 1) := by decide +kernel
theorem dX10_copyOf_89 : decode cX10_copyOf 89 = .ok (.iinc 2 1, 3) := by decide +kernel
theorem dX10_copyOf_92 : decode cX10_copyOf 92 = .ok (.goto (-21), 3) := by decide +kernel
theorem dX10_copyOf_0 : decode cX10_copyOf 0 = .ok (.aload_n 0, 1) := by decide +kernel
theorem dX10_copyOf_1 : decode cX10_copyOf 1 = .ok (.aload_n 1, 1) := by decide +kernel
theorem dX10_copyOf_2 : decode cX10_copyOf 2 = .ok (.getfield 9, 3) := by decide +kernel
theorem dX10_copyOf_5 : decode cX10_copyOf 5 = .ok (.putfield 9, 3) := by decide +kernel
theorem dX10_copyOf_8 : decode cX10_copyOf 8 = .ok (.aload_n 0, 1) := by decide +kernel
theorem dX10_copyOf_9 : decode cX10_copyOf 9 = .ok (.aload_n 1, 1) := by decide +kernel
theorem dX10_copyOf_10 : decode cX10_copyOf 10 = .ok (.getfield 15, 3) := by decide +kernel
theorem dX10_copyOf_13 : decode cX10_copyOf 13 = .ok (.putfield 15, 3) := by decide +kernel
theorem dX10_copyOf_16 : decode cX10_copyOf 16 = .ok (.aload_n 0, 1) := by decide +kernel
theorem dX10_copyOf_17 : decode cX10_copyOf 17 = .ok (.aload_n 1, 1) := by decide +kernel
theorem dX10_copyOf_18 : decode cX10_copyOf 18 = .ok (.getfield 18, 3) := by decide +kernel
theorem dX10_copyOf_21 : decode cX10_copyOf 21 = .ok (.putfield 18, 3) := by decide +kernel
theorem dX10_copyOf_24 : decode cX10_copyOf 24 = .ok (.aload_n 1, 1) := by decide +kernel
theorem dX10_copyOf_25 : decode cX10_copyOf 25 = .ok (.getfield 21, 3) := by decide +kernel
theorem dX10_copyOf_28 : decode cX10_copyOf 28 = .ok (.iconst 0, 1) := by decide +kernel
theorem dX10_copyOf_29 : decode cX10_copyOf 29 = .ok (.aload_n 0, 1) := by decide +kernel
theorem dX10_copyOf_30 : decode cX10_copyOf 30 = .ok (.getfield 21, 3) := by decide +kernel
theorem dX10_copyOf_33 : decode cX10_copyOf 33 = .ok (.iconst 0, 1) := by decide +kernel
theorem dX10_copyOf_34 : decode cX10_copyOf 34 = .ok (.bipush 16, 2) := by decide +kernel
theorem dX10_copyOf_36 : decode cX10_copyOf 36 = .ok (.invokestatic 72, 3) := by decide +kernel
theorem dX10_copyOf_39 : decode cX10_copyOf 39 = .ok (.aload_n 1, 1) := by decide +kernel
theorem dX10_copyOf_40 : decode cX10_copyOf 40 = .ok (.getfield 25, 3) := by decide +kernel
theorem dX10_copyOf_43 : decode cX10_copyOf 43 = .ok (.iconst 0, 1) := by decide +kernel
theorem dX10_copyOf_44 : decode cX10_copyOf 44 = .ok (.aload_n 0, 1) := by decide +kernel
theorem dX10_copyOf_45 : decode cX10_copyOf 45 = .ok (.getfield 25, 3) := by decide +kernel
theorem dX10_copyOf_48 : decode cX10_copyOf 48 = .ok (.iconst 0, 1) := by decide +kernel
theorem dX10_copyOf_49 : decode cX10_copyOf 49 = .ok (.bipush 16, 2) := by decide +kernel
theorem dX10_copyOf_51 : decode cX10_copyOf 51 = .ok (.invokestatic 72, 3) := by decide +kernel
theorem dX10_copyOf_54 : decode cX10_copyOf 54 = .ok (.aload_n 1, 1) := by decide +kernel
theorem dX10_copyOf_55 : decode cX10_copyOf 55 = .ok (.getfield 28, 3) := by decide +kernel
theorem dX10_copyOf_58 : decode cX10_copyOf 58 = .ok (.iconst 0, 1) := by decide +kernel
theorem dX10_copyOf_59 : decode cX10_copyOf 59 = .ok (.aload_n 0, 1) := by decide +kernel
theorem dX10_copyOf_60 : decode cX10_copyOf 60 = .ok (.getfield 28, 3) := by decide +kernel
theorem dX10_copyOf_63 : decode cX10_copyOf 63 = .ok (.iconst 0, 1) := by decide +kernel
theorem dX10_copyOf_64 : decode cX10_copyOf 64 = .ok (.bipush 16, 2) := by decide +kernel
theorem dX10_copyOf_66 : decode cX10_copyOf 66 = .ok (.invokestatic 72, 3) := by decide +kernel
theorem dX10_copyOf_69 : decode cX10_copyOf 69 = .ok (.iconst 0, 1) := by decide +kernel
theorem dX10_copyOf_70 : decode cX10_copyOf 70 = .ok (.istore_n 2, 1) := by decide +kernel
def D_X10_copyOf_71 (N : Nat) : Nat → mh_H → Nat → Nat → Int32 → Option mh_H
  | 0, _, _, _, _ => none
  | F + 1, h, l0, l1, l2 =>
    if (24 : Int32) ≤ l2 then ((gR h 10 l0 7).bind fun v1 =>
    (gR h 10 l1 7).bind fun v2 =>
    kO h 8 v1 <|
    (D_X8_copyOf N h v1 v2).bind fun q3 =>
    (gR q3 10 l0 8).bind fun v4 =>
    (gR q3 10 l1 8).bind fun v5 =>
    kO q3 1 v4 <|
    (D_X1_copyOf N q3 v4 v5).bind fun q6 =>
    (gR q6 10 l0 9).bind fun v7 =>
    (gR q6 10 l1 9).bind fun v8 =>
    kO q6 6 v7 <|
    (D_X6_copyOf N q6 v7 v8).bind fun q9 =>
    (gR q9 10 l0 10).bind fun v10 =>
    (gR q9 10 l1 10).bind fun v11 =>
    kO q9 6 v10 <|
    (D_X6_copyOf N q9 v10 v11).bind fun q12 =>
    (gR q12 10 l0 11).bind fun v13 =>
    (gR q12 10 l1 11).bind fun v14 =>
    kO q12 6 v13 <|
    (D_X6_copyOf N q12 v13 v14).bind fun q15 =>
    (gR q15 10 l0 12).bind fun v16 =>
    (gR q15 10 l1 12).bind fun v17 =>
    kO q15 6 v16 <|
    (D_X6_copyOf N q15 v16 v17).bind fun q18 =>
    some q18)
    else ((gR h 10 l0 6).bind fun v1 =>
    (gR h 10 l1 6).bind fun v2 =>
    (aR h v2 l2).bind fun v3 =>
    (uR h v1 l2 v3).bind fun h4 =>
    (D_X10_copyOf_71 N F) h4 l0 l1 (l2 + Int32.ofInt (1)))
set_option maxHeartbeats 4000000 in
set_option maxRecDepth 100000 in
theorem T_X10_copyOf_71 {P : mh_E → Prop} {N d : Nat} (hd : 2 ≤ d) {z : mh_H} : ∀ (F : Nat) (h : mh_H) (l0 : Nat) (l1 : Nat) (l2 : Int32), D_X10_copyOf_71 N F h l0 l1 l2 = some z → mh_go P d mX10_copyOf 71 [some (.ref l0), some (.ref l1), some (.int l2)] [] h none z := by
  intro F
  induction F with
  | zero => intro h l0 l1 l2 hq; rw [D_X10_copyOf_71] at hq; cases hq
  | succ F ih =>
    intro h l0 l1 l2 hq
    rw [D_X10_copyOf_71] at hq
    refine st_iload_n (pc := 71) dX10_copyOf_71 rfl ?_
    refine st_bipush (pc := 72) (v := (24 : Int32)) dX10_copyOf_72 (by decide) ?_
    refine bd_icmp_ge (pc := 74) (tgt := 95) hq dX10_copyOf_74 (by decide) (fun _ hq => ?_) (fun _ hq => ?_)
    ·
      refine st_aload_n (pc := 95) dX10_copyOf_95 rfl ?_
      refine bd_getr (pc := 96) hq dX10_copyOf_96 fl_10_40_10 rfl (fun v1 hq => ?_)
      refine st_aload_n (pc := 99) dX10_copyOf_99 rfl ?_
      refine bd_getr (pc := 100) hq dX10_copyOf_100 fl_10_40_10 rfl (fun v2 hq => ?_)
      obtain ⟨⟨hbq3, hkq3⟩, hq⟩ := mh_oi hq
      obtain ⟨q3, e3, hq⟩ := mh_ob hq
      refine st_invV (pc := 103) (ci := 8) (vs := [.ref v2]) (rest := []) (st2 := []) dX10_copyOf_103 okX8_copyOf (by decide) hkq3 hbq3 wd_1109 wd_761 wd_762 pdX8_copyOf rfl rfl rfl rfl (Nat.le_trans (by decide) hd) (Nat.le_of_ble_eq_true rfl) (T_X8_copyOf (Nat.le_refl _) e3) rfl ?_
      refine st_aload_n (pc := 106) dX10_copyOf_106 rfl ?_
      refine bd_getr (pc := 107) hq dX10_copyOf_107 fl_10_47_10 rfl (fun v4 hq => ?_)
      refine st_aload_n (pc := 110) dX10_copyOf_110 rfl ?_
      refine bd_getr (pc := 111) hq dX10_copyOf_111 fl_10_47_10 rfl (fun v5 hq => ?_)
      obtain ⟨⟨hbq6, hkq6⟩, hq⟩ := mh_oi hq
      obtain ⟨q6, e6, hq⟩ := mh_ob hq
      refine st_invV (pc := 114) (ci := 1) (vs := [.ref v5]) (rest := []) (st2 := []) dX10_copyOf_114 okX1_copyOf (by decide) hkq6 hbq6 wd_1110 wd_1111 wd_1112 pdX1_copyOf rfl rfl rfl rfl (Nat.le_trans (by decide) hd) (Nat.le_of_ble_eq_true rfl) (T_X1_copyOf (Nat.le_refl _) e6) rfl ?_
      refine st_aload_n (pc := 117) dX10_copyOf_117 rfl ?_
      refine bd_getr (pc := 118) hq dX10_copyOf_118 fl_10_56_10 rfl (fun v7 hq => ?_)
      refine st_aload_n (pc := 121) dX10_copyOf_121 rfl ?_
      refine bd_getr (pc := 122) hq dX10_copyOf_122 fl_10_56_10 rfl (fun v8 hq => ?_)
      obtain ⟨⟨hbq9, hkq9⟩, hq⟩ := mh_oi hq
      obtain ⟨q9, e9, hq⟩ := mh_ob hq
      refine st_invV (pc := 125) (ci := 6) (vs := [.ref v8]) (rest := []) (st2 := []) dX10_copyOf_125 okX6_copyOf (by decide) hkq9 hbq9 wd_1115 wd_790 wd_791 pdX6_copyOf rfl rfl rfl rfl (Nat.le_trans (by decide) hd) (Nat.le_of_ble_eq_true rfl) (T_X6_copyOf (Nat.le_refl _) e9) rfl ?_
      refine st_aload_n (pc := 128) dX10_copyOf_128 rfl ?_
      refine bd_getr (pc := 129) hq dX10_copyOf_129 fl_10_60_10 rfl (fun v10 hq => ?_)
      refine st_aload_n (pc := 132) dX10_copyOf_132 rfl ?_
      refine bd_getr (pc := 133) hq dX10_copyOf_133 fl_10_60_10 rfl (fun v11 hq => ?_)
      obtain ⟨⟨hbq12, hkq12⟩, hq⟩ := mh_oi hq
      obtain ⟨q12, e12, hq⟩ := mh_ob hq
      refine st_invV (pc := 136) (ci := 6) (vs := [.ref v11]) (rest := []) (st2 := []) dX10_copyOf_136 okX6_copyOf (by decide) hkq12 hbq12 wd_1115 wd_790 wd_791 pdX6_copyOf rfl rfl rfl rfl (Nat.le_trans (by decide) hd) (Nat.le_of_ble_eq_true rfl) (T_X6_copyOf (Nat.le_refl _) e12) rfl ?_
      refine st_aload_n (pc := 139) dX10_copyOf_139 rfl ?_
      refine bd_getr (pc := 140) hq dX10_copyOf_140 fl_10_63_10 rfl (fun v13 hq => ?_)
      refine st_aload_n (pc := 143) dX10_copyOf_143 rfl ?_
      refine bd_getr (pc := 144) hq dX10_copyOf_144 fl_10_63_10 rfl (fun v14 hq => ?_)
      obtain ⟨⟨hbq15, hkq15⟩, hq⟩ := mh_oi hq
      obtain ⟨q15, e15, hq⟩ := mh_ob hq
      refine st_invV (pc := 147) (ci := 6) (vs := [.ref v14]) (rest := []) (st2 := []) dX10_copyOf_147 okX6_copyOf (by decide) hkq15 hbq15 wd_1115 wd_790 wd_791 pdX6_copyOf rfl rfl rfl rfl (Nat.le_trans (by decide) hd) (Nat.le_of_ble_eq_true rfl) (T_X6_copyOf (Nat.le_refl _) e15) rfl ?_
      refine st_aload_n (pc := 150) dX10_copyOf_150 rfl ?_
      refine bd_getr (pc := 151) hq dX10_copyOf_151 fl_10_66_10 rfl (fun v16 hq => ?_)
      refine st_aload_n (pc := 154) dX10_copyOf_154 rfl ?_
      refine bd_getr (pc := 155) hq dX10_copyOf_155 fl_10_66_10 rfl (fun v17 hq => ?_)
      obtain ⟨⟨hbq18, hkq18⟩, hq⟩ := mh_oi hq
      obtain ⟨q18, e18, hq⟩ := mh_ob hq
      refine st_invV (pc := 158) (ci := 6) (vs := [.ref v17]) (rest := []) (st2 := []) dX10_copyOf_158 okX6_copyOf (by decide) hkq18 hbq18 wd_1115 wd_790 wd_791 pdX6_copyOf rfl rfl rfl rfl (Nat.le_trans (by decide) hd) (Nat.le_of_ble_eq_true rfl) (T_X6_copyOf (Nat.le_refl _) e18) rfl ?_
      exact bd_vret (pc := 161) hq dX10_copyOf_161 rfl
    ·
      refine st_aload_n (pc := 77) dX10_copyOf_77 rfl ?_
      refine bd_getr (pc := 78) hq dX10_copyOf_78 fl_10_33_10 rfl (fun v1 hq => ?_)
      refine st_iload_n (pc := 81) dX10_copyOf_81 rfl ?_
      refine st_aload_n (pc := 82) dX10_copyOf_82 rfl ?_
      refine bd_getr (pc := 83) hq dX10_copyOf_83 fl_10_33_10 rfl (fun v2 hq => ?_)
      refine st_iload_n (pc := 86) dX10_copyOf_86 rfl ?_
      refine bd_aald (pc := 87) hq dX10_copyOf_87 (fun v3 hq => ?_)
      refine bd_aast (pc := 88) hq dX10_copyOf_88 (fun h4 hq => ?_)
      refine st_iinc (pc := 89) (lv' := [some (.ref l0), some (.ref l1), some (.int (l2 + Int32.ofInt (1)))]) dX10_copyOf_89 rfl rfl (by decide) rfl ?_
      refine st_goto (pc := 92) (tgt := 71) dX10_copyOf_92 (by decide) ?_
      exact ih _ _ _ _ hq
def D_X10_copyOf (N : Nat) (h : mh_H) (l0 : Nat) (l1 : Nat) : Option mh_H :=
  (gI h 10 l1 0).bind fun v1 =>
  (pI h 10 l0 0 v1).bind fun h2 =>
  (gI h2 10 l1 1).bind fun v3 =>
  (pI h2 10 l0 1 v3).bind fun h4 =>
  (gI h4 10 l1 2).bind fun v5 =>
  (pI h4 10 l0 2 v5).bind fun h6 =>
  (gR h6 10 l1 3).bind fun v7 =>
  (gR h6 10 l0 3).bind fun v8 =>
  (cP h6 v7 v8 (0 : Int32) (0 : Int32) (16 : Int32)).bind fun h9 =>
  (gR h9 10 l1 4).bind fun v10 =>
  (gR h9 10 l0 4).bind fun v11 =>
  (cP h9 v10 v11 (0 : Int32) (0 : Int32) (16 : Int32)).bind fun h12 =>
  (gR h12 10 l1 5).bind fun v13 =>
  (gR h12 10 l0 5).bind fun v14 =>
  (cP h12 v13 v14 (0 : Int32) (0 : Int32) (16 : Int32)).bind fun h15 =>
  D_X10_copyOf_71 N N h15 l0 l1 (0 : Int32)
set_option maxHeartbeats 4000000 in
set_option maxRecDepth 100000 in
theorem T_X10_copyOf {P : mh_E → Prop} {N d : Nat} (hd : 2 ≤ d) {z : mh_H} {h : mh_H} {l0 : Nat} {l1 : Nat} (hq : D_X10_copyOf N h l0 l1 = some z) : mh_go P d mX10_copyOf 0 [some (.ref l0), some (.ref l1), none] [] h none z := by
  unfold D_X10_copyOf at hq
  refine st_aload_n (pc := 0) dX10_copyOf_0 rfl ?_
  refine st_aload_n (pc := 1) dX10_copyOf_1 rfl ?_
  refine bd_geti (pc := 2) hq dX10_copyOf_2 fl_10_9_10 rfl (fun v1 hq => ?_)
  refine bd_puti (pc := 5) hq dX10_copyOf_5 fl_10_9_10 (Or.inl rfl) rfl (fun h2 hq => ?_)
  refine st_aload_n (pc := 8) dX10_copyOf_8 rfl ?_
  refine st_aload_n (pc := 9) dX10_copyOf_9 rfl ?_
  refine bd_geti (pc := 10) hq dX10_copyOf_10 fl_10_15_10 rfl (fun v3 hq => ?_)
  refine bd_puti (pc := 13) hq dX10_copyOf_13 fl_10_15_10 (Or.inl rfl) rfl (fun h4 hq => ?_)
  refine st_aload_n (pc := 16) dX10_copyOf_16 rfl ?_
  refine st_aload_n (pc := 17) dX10_copyOf_17 rfl ?_
  refine bd_geti (pc := 18) hq dX10_copyOf_18 fl_10_18_10 rfl (fun v5 hq => ?_)
  refine bd_puti (pc := 21) hq dX10_copyOf_21 fl_10_18_10 (Or.inl rfl) rfl (fun h6 hq => ?_)
  refine st_aload_n (pc := 24) dX10_copyOf_24 rfl ?_
  refine bd_getr (pc := 25) hq dX10_copyOf_25 fl_10_21_10 rfl (fun v7 hq => ?_)
  refine st_iconst (pc := 28) (v := (0 : Int32)) dX10_copyOf_28 rfl ?_
  refine st_aload_n (pc := 29) dX10_copyOf_29 rfl ?_
  refine bd_getr (pc := 30) hq dX10_copyOf_30 fl_10_21_10 rfl (fun v8 hq => ?_)
  refine st_iconst (pc := 33) (v := (0 : Int32)) dX10_copyOf_33 rfl ?_
  refine st_bipush (pc := 34) (v := (16 : Int32)) dX10_copyOf_34 (by decide) ?_
  refine bd_copy (pc := 36) hq dX10_copyOf_36 wd_1108 wd_766 wd_765 wd_21 (Nat.le_trans (by decide) hd) (Nat.le_of_ble_eq_true rfl) (fun h9 hq => ?_)
  refine st_aload_n (pc := 39) dX10_copyOf_39 rfl ?_
  refine bd_getr (pc := 40) hq dX10_copyOf_40 fl_10_25_10 rfl (fun v10 hq => ?_)
  refine st_iconst (pc := 43) (v := (0 : Int32)) dX10_copyOf_43 rfl ?_
  refine st_aload_n (pc := 44) dX10_copyOf_44 rfl ?_
  refine bd_getr (pc := 45) hq dX10_copyOf_45 fl_10_25_10 rfl (fun v11 hq => ?_)
  refine st_iconst (pc := 48) (v := (0 : Int32)) dX10_copyOf_48 rfl ?_
  refine st_bipush (pc := 49) (v := (16 : Int32)) dX10_copyOf_49 (by decide) ?_
  refine bd_copy (pc := 51) hq dX10_copyOf_51 wd_1108 wd_766 wd_765 wd_21 (Nat.le_trans (by decide) hd) (Nat.le_of_ble_eq_true rfl) (fun h12 hq => ?_)
  refine st_aload_n (pc := 54) dX10_copyOf_54 rfl ?_
  refine bd_getr (pc := 55) hq dX10_copyOf_55 fl_10_28_10 rfl (fun v13 hq => ?_)
  refine st_iconst (pc := 58) (v := (0 : Int32)) dX10_copyOf_58 rfl ?_
  refine st_aload_n (pc := 59) dX10_copyOf_59 rfl ?_
  refine bd_getr (pc := 60) hq dX10_copyOf_60 fl_10_28_10 rfl (fun v14 hq => ?_)
  refine st_iconst (pc := 63) (v := (0 : Int32)) dX10_copyOf_63 rfl ?_
  refine st_bipush (pc := 64) (v := (16 : Int32)) dX10_copyOf_64 (by decide) ?_
  refine bd_copy (pc := 66) hq dX10_copyOf_66 wd_1108 wd_766 wd_765 wd_21 (Nat.le_trans (by decide) hd) (Nat.le_of_ble_eq_true rfl) (fun h15 hq => ?_)
  refine st_iconst (pc := 69) (v := (0 : Int32)) dX10_copyOf_69 rfl ?_
  refine st_istore_n (pc := 70) (lv' := [some (.ref l0), some (.ref l1), some (.int (0 : Int32))]) dX10_copyOf_70 rfl (by decide) rfl ?_
  exact T_X10_copyOf_71 hd N _ _ _ _ hq
-- HoleWater.image()I
theorem dX11_image_0 : decode cX11_image 0 = .ok (.aload_n 0, 1) := by decide +kernel
theorem dX11_image_1 : decode cX11_image 1 = .ok (.getfield 16, 3) := by decide +kernel
theorem dX11_image_4 : decode cX11_image 4 = .ok (.aload_n 0, 1) := by decide +kernel
theorem dX11_image_5 : decode cX11_image 5 = .ok (.getfield 10, 3) := by decide +kernel
theorem dX11_image_8 : decode cX11_image 8 = .ok (.invokevirtual 358, 3) := by decide +kernel
theorem dX11_image_11 : decode cX11_image 11 = .ok (.aload_n 0, 1) := by decide +kernel
theorem dX11_image_12 : decode cX11_image 12 = .ok (.dup, 1) := by decide +kernel
theorem dX11_image_13 : decode cX11_image 13 = .ok (.getfield 58, 3) := by decide +kernel
theorem dX11_image_16 : decode cX11_image 16 = .ok (.iconst 1, 1) := by decide +kernel
theorem dX11_image_17 : decode cX11_image 17 = .ok (.iadd, 1) := by decide +kernel
theorem dX11_image_18 : decode cX11_image 18 = .ok (.putfield 58, 3) := by decide +kernel
theorem dX11_image_21 : decode cX11_image 21 = .ok (.aload_n 0, 1) := by decide +kernel
theorem dX11_image_22 : decode cX11_image 22 = .ok (.getfield 58, 3) := by decide +kernel
theorem dX11_image_25 : decode cX11_image 25 = .ok (.ireturn, 1) := by decide +kernel
def D_X11_image (N : Nat) (h : mh_H) (l0 : Nat) : Option (Int32 × mh_H) :=
  (gR h 11 l0 1).bind fun v1 =>
  (gR h 11 l0 0).bind fun v2 =>
  kO h 10 v1 <|
  (D_X10_copyOf N h v1 v2).bind fun q3 =>
  (gI q3 11 l0 10).bind fun v4 =>
  (pI q3 11 l0 10 (v4 + (1 : Int32))).bind fun h5 =>
  (gI h5 11 l0 10).bind fun v6 =>
  some (v6, h5)
set_option maxHeartbeats 4000000 in
set_option maxRecDepth 100000 in
theorem T_X11_image {P : mh_E → Prop} {N d : Nat} (hd : 3 ≤ d) {z : (Int32 × mh_H)} {h : mh_H} {l0 : Nat} (hq : D_X11_image N h l0 = some z) : mh_go P d mX11_image 0 [some (.ref l0)] [] h (some (.int z.1)) z.2 := by
  unfold D_X11_image at hq
  refine st_aload_n (pc := 0) dX11_image_0 rfl ?_
  refine bd_getr (pc := 1) hq dX11_image_1 fl_11_16_11 rfl (fun v1 hq => ?_)
  refine st_aload_n (pc := 4) dX11_image_4 rfl ?_
  refine bd_getr (pc := 5) hq dX11_image_5 fl_11_10_11 rfl (fun v2 hq => ?_)
  obtain ⟨⟨hbq3, hkq3⟩, hq⟩ := mh_oi hq
  obtain ⟨q3, e3, hq⟩ := mh_ob hq
  refine st_invV (pc := 8) (ci := 10) (vs := [.ref v2]) (rest := []) (st2 := []) dX11_image_8 okX10_copyOf (by decide) hkq3 hbq3 wd_1104 wd_1105 wd_1106 pdX10_copyOf rfl rfl rfl rfl (Nat.le_trans (by decide) hd) (Nat.le_of_ble_eq_true rfl) (T_X10_copyOf (Nat.le_refl _) e3) rfl ?_
  refine st_aload_n (pc := 11) dX11_image_11 rfl ?_
  refine st_dup (pc := 12) dX11_image_12 rfl ?_
  refine bd_geti (pc := 13) hq dX11_image_13 fl_11_58_11 rfl (fun v4 hq => ?_)
  refine st_iconst (pc := 16) (v := (1 : Int32)) dX11_image_16 rfl ?_
  refine st_iadd (pc := 17) dX11_image_17 ?_
  refine bd_puti (pc := 18) hq dX11_image_18 fl_11_58_11 (Or.inl rfl) rfl (fun h5 hq => ?_)
  refine st_aload_n (pc := 21) dX11_image_21 rfl ?_
  refine bd_geti (pc := 22) hq dX11_image_22 fl_11_58_11 rfl (fun v6 hq => ?_)
  exact bd_iret (pc := 25) hq dX11_image_25 rfl
-- HoleWater.restore()I
theorem dX11_restore_0 : decode cX11_restore 0 = .ok (.aload_n 0, 1) := by decide +kernel
theorem dX11_restore_1 : decode cX11_restore 1 = .ok (.getfield 58, 3) := by decide +kernel
theorem dX11_restore_4 : decode cX11_restore 4 = .ok (.ifCond .ne 9, 3) := by decide +kernel
theorem dX11_restore_7 : decode cX11_restore 7 = .ok (.aload_n 0, 1) := by decide +kernel
theorem dX11_restore_8 : decode cX11_restore 8 = .ok (.iconst 2, 1) := by decide +kernel
theorem dX11_restore_9 : decode cX11_restore 9 = .ok (.invokevirtual 66, 3) := by decide +kernel
theorem dX11_restore_12 : decode cX11_restore 12 = .ok (.ireturn, 1) := by decide +kernel
theorem dX11_restore_13 : decode cX11_restore 13 = .ok (.aload_n 0, 1) := by decide +kernel
theorem dX11_restore_14 : decode cX11_restore 14 = .ok (.getfield 10, 3) := by decide +kernel
theorem dX11_restore_17 : decode cX11_restore 17 = .ok (.aload_n 0, 1) := by decide +kernel
theorem dX11_restore_18 : decode cX11_restore 18 = .ok (.getfield 16, 3) := by decide +kernel
theorem dX11_restore_21 : decode cX11_restore 21 = .ok (.invokevirtual 358, 3) := by decide +kernel
theorem dX11_restore_24 : decode cX11_restore 24 = .ok (.aload_n 0, 1) := by decide +kernel
theorem dX11_restore_25 : decode cX11_restore 25 = .ok (.getfield 10, 3) := by decide +kernel
theorem dX11_restore_28 : decode cX11_restore 28 = .ok (.getfield 90, 3) := by decide +kernel
theorem dX11_restore_31 : decode cX11_restore 31 = .ok (.getfield 189, 3) := by decide +kernel
theorem dX11_restore_34 : decode cX11_restore 34 = .ok (.ireturn, 1) := by decide +kernel
def D_X11_restore (N : Nat) (h : mh_H) (l0 : Nat) : Option (Int32 × mh_H) :=
  (gI h 11 l0 10).bind fun v1 =>
  if v1 = 0 then (kO h 11 l0 <|
  (D_X11_error N h l0 (2 : Int32)).bind fun q2 =>
  some (q2.1, q2.2))
  else ((gR h 11 l0 0).bind fun v2 =>
  (gR h 11 l0 1).bind fun v3 =>
  kO h 10 v2 <|
  (D_X10_copyOf N h v2 v3).bind fun q4 =>
  (gR q4 11 l0 0).bind fun v5 =>
  (gR q4 10 v5 7).bind fun v6 =>
  (gI q4 8 v6 0).bind fun v7 =>
  some (v7, q4))
set_option maxHeartbeats 4000000 in
set_option maxRecDepth 100000 in
theorem T_X11_restore {P : mh_E → Prop} {N d : Nat} (hd : 3 ≤ d) {z : (Int32 × mh_H)} {h : mh_H} {l0 : Nat} (hq : D_X11_restore N h l0 = some z) : mh_go P d mX11_restore 0 [some (.ref l0)] [] h (some (.int z.1)) z.2 := by
  unfold D_X11_restore at hq
  refine st_aload_n (pc := 0) dX11_restore_0 rfl ?_
  refine bd_geti (pc := 1) hq dX11_restore_1 fl_11_58_11 rfl (fun v1 hq => ?_)
  refine bd_if_ne (pc := 4) (tgt := 13) hq dX11_restore_4 (by decide) (fun _ hq => ?_) (fun _ hq => ?_)
  ·
    refine st_aload_n (pc := 7) dX11_restore_7 rfl ?_
    refine st_iconst (pc := 8) (v := (2 : Int32)) dX11_restore_8 rfl ?_
    obtain ⟨⟨hbq2, hkq2⟩, hq⟩ := mh_oi hq
    obtain ⟨q2, e2, hq⟩ := mh_ob hq
    refine st_invV (pc := 9) (ci := 11) (vs := [.int (2 : Int32)]) (rest := []) (st2 := [.int q2.1]) dX11_restore_9 okX11_error (by decide) hkq2 hbq2 wd_314 wd_316 wp_0 pdX11_error rfl rfl rfl rfl (Nat.le_trans (by decide) hd) (Nat.le_of_ble_eq_true rfl) (T_X11_error (Nat.le_refl _) e2) rfl ?_
    exact bd_iret (pc := 12) hq dX11_restore_12 rfl
  ·
    refine st_aload_n (pc := 13) dX11_restore_13 rfl ?_
    refine bd_getr (pc := 14) hq dX11_restore_14 fl_11_10_11 rfl (fun v2 hq => ?_)
    refine st_aload_n (pc := 17) dX11_restore_17 rfl ?_
    refine bd_getr (pc := 18) hq dX11_restore_18 fl_11_16_11 rfl (fun v3 hq => ?_)
    obtain ⟨⟨hbq4, hkq4⟩, hq⟩ := mh_oi hq
    obtain ⟨q4, e4, hq⟩ := mh_ob hq
    refine st_invV (pc := 21) (ci := 10) (vs := [.ref v3]) (rest := []) (st2 := []) dX11_restore_21 okX10_copyOf (by decide) hkq4 hbq4 wd_1104 wd_1105 wd_1106 pdX10_copyOf rfl rfl rfl rfl (Nat.le_trans (by decide) hd) (Nat.le_of_ble_eq_true rfl) (T_X10_copyOf (Nat.le_refl _) e4) rfl ?_
    refine st_aload_n (pc := 24) dX11_restore_24 rfl ?_
    refine bd_getr (pc := 25) hq dX11_restore_25 fl_11_10_11 rfl (fun v5 hq => ?_)
    refine bd_getr (pc := 28) hq dX11_restore_28 fl_11_90_10 rfl (fun v6 hq => ?_)
    refine bd_geti (pc := 31) hq dX11_restore_31 fl_11_189_8 rfl (fun v7 hq => ?_)
    exact bd_iret (pc := 34) hq dX11_restore_34 rfl
-- HoleWater.tell(I)I
theorem dX11_tell_0 : decode cX11_tell 0 = .ok (.aload_n 0, 1) := by decide +kernel
theorem dX11_tell_1 : decode cX11_tell 1 = .ok (.getfield 10, 3) := by decide +kernel
theorem dX11_tell_4 : decode cX11_tell 4 = .ok (.getfield 361, 3) := by decide +kernel
theorem dX11_tell_7 : decode cX11_tell 7 = .ok (.iload_n 1, 1) := by decide +kernel
theorem dX11_tell_8 : decode cX11_tell 8 = .ok (.invokevirtual 236, 3) := by decide +kernel
theorem dX11_tell_11 : decode cX11_tell 11 = .ok (.ifCond .ne 9, 3) := by decide +kernel
theorem dX11_tell_14 : decode cX11_tell 14 = .ok (.aload_n 0, 1) := by decide +kernel
theorem dX11_tell_15 : decode cX11_tell 15 = .ok (.iconst 4, 1) := by decide +kernel
theorem dX11_tell_16 : decode cX11_tell 16 = .ok (.invokevirtual 66, 3) := by decide +kernel
theorem dX11_tell_19 : decode cX11_tell 19 = .ok (.ireturn, 1) := by decide +kernel
theorem dX11_tell_20 : decode cX11_tell 20 = .ok (.aload_n 0, 1) := by decide +kernel
theorem dX11_tell_21 : decode cX11_tell 21 = .ok (.getfield 10, 3) := by decide +kernel
theorem dX11_tell_24 : decode cX11_tell 24 = .ok (.getfield 361, 3) := by decide +kernel
theorem dX11_tell_27 : decode cX11_tell 27 = .ok (.getfield 233, 3) := by decide +kernel
theorem dX11_tell_30 : decode cX11_tell 30 = .ok (.ireturn, 1) := by decide +kernel
def D_X11_tell (N : Nat) (h : mh_H) (l0 : Nat) (l1 : Int32) : Option (Int32 × mh_H) :=
  (gR h 11 l0 0).bind fun v1 =>
  (gR h 10 v1 12).bind fun v2 =>
  kO h 6 v2 <|
  (D_X6_add N h v2 l1).bind fun q3 =>
  if q3.1 = 0 then (kO q3.2 11 l0 <|
  (D_X11_error N q3.2 l0 (4 : Int32)).bind fun q4 =>
  some (q4.1, q4.2))
  else ((gR q3.2 11 l0 0).bind fun v4 =>
  (gR q3.2 10 v4 12).bind fun v5 =>
  (gI q3.2 6 v5 1).bind fun v6 =>
  some (v6, q3.2))
set_option maxHeartbeats 4000000 in
set_option maxRecDepth 100000 in
theorem T_X11_tell {P : mh_E → Prop} {N d : Nat} (hd : 3 ≤ d) {z : (Int32 × mh_H)} {h : mh_H} {l0 : Nat} {l1 : Int32} (hq : D_X11_tell N h l0 l1 = some z) : mh_go P d mX11_tell 0 [some (.ref l0), some (.int l1)] [] h (some (.int z.1)) z.2 := by
  unfold D_X11_tell at hq
  refine st_aload_n (pc := 0) dX11_tell_0 rfl ?_
  refine bd_getr (pc := 1) hq dX11_tell_1 fl_11_10_11 rfl (fun v1 hq => ?_)
  refine bd_getr (pc := 4) hq dX11_tell_4 fl_11_361_10 rfl (fun v2 hq => ?_)
  refine st_iload_n (pc := 7) dX11_tell_7 rfl ?_
  obtain ⟨⟨hbq3, hkq3⟩, hq⟩ := mh_oi hq
  obtain ⟨q3, e3, hq⟩ := mh_ob hq
  refine st_invV (pc := 8) (ci := 6) (vs := [.int l1]) (rest := []) (st2 := [.int q3.1]) dX11_tell_8 okX6_add (by decide) hkq3 hbq3 wd_775 wd_776 wd_777 pdX6_add rfl rfl rfl rfl (Nat.le_trans (by decide) hd) (Nat.le_of_ble_eq_true rfl) (T_X6_add (Nat.le_refl _) e3) rfl ?_
  refine bd_if_ne (pc := 11) (tgt := 20) hq dX11_tell_11 (by decide) (fun _ hq => ?_) (fun _ hq => ?_)
  ·
    refine st_aload_n (pc := 14) dX11_tell_14 rfl ?_
    refine st_iconst (pc := 15) (v := (4 : Int32)) dX11_tell_15 rfl ?_
    obtain ⟨⟨hbq4, hkq4⟩, hq⟩ := mh_oi hq
    obtain ⟨q4, e4, hq⟩ := mh_ob hq
    refine st_invV (pc := 16) (ci := 11) (vs := [.int (4 : Int32)]) (rest := []) (st2 := [.int q4.1]) dX11_tell_16 okX11_error (by decide) hkq4 hbq4 wd_314 wd_316 wp_0 pdX11_error rfl rfl rfl rfl (Nat.le_trans (by decide) hd) (Nat.le_of_ble_eq_true rfl) (T_X11_error (Nat.le_refl _) e4) rfl ?_
    exact bd_iret (pc := 19) hq dX11_tell_19 rfl
  ·
    refine st_aload_n (pc := 20) dX11_tell_20 rfl ?_
    refine bd_getr (pc := 21) hq dX11_tell_21 fl_11_10_11 rfl (fun v4 hq => ?_)
    refine bd_getr (pc := 24) hq dX11_tell_24 fl_11_361_10 rfl (fun v5 hq => ?_)
    refine bd_geti (pc := 27) hq dX11_tell_27 fl_11_233_6 rfl (fun v6 hq => ?_)
    exact bd_iret (pc := 30) hq dX11_tell_30 rfl
-- HoleWater.check(I)I
theorem dX11_check_72 : decode cX11_check 72 = .ok (.iload_n 3, 1) := by decide +kernel
theorem dX11_check_73 : decode cX11_check 73 = .ok (.iload_n 2, 1) := by decide +kernel
theorem dX11_check_74 : decode cX11_check 74 = .ok (.if_icmp .ge 51, 3) := by decide +kernel
theorem dX11_check_125 : decode cX11_check 125 = .ok (.iconst 0, 1) := by decide +kernel
theorem dX11_check_126 : decode cX11_check 126 = .ok (.ireturn, 1) := by decide +kernel
theorem dX11_check_77 : decode cX11_check 77 = .ok (.aload_n 0, 1) := by decide +kernel
theorem dX11_check_78 : decode cX11_check 78 = .ok (.getfield 22, 3) := by decide +kernel
theorem dX11_check_81 : decode cX11_check 81 = .ok (.aload_n 0, 1) := by decide +kernel
theorem dX11_check_82 : decode cX11_check 82 = .ok (.getfield 10, 3) := by decide +kernel
theorem dX11_check_85 : decode cX11_check 85 = .ok (.aload_n 0, 1) := by decide +kernel
theorem dX11_check_86 : decode cX11_check 86 = .ok (.getfield 29, 3) := by decide +kernel
theorem dX11_check_89 : decode cX11_check 89 = .ok (.invokevirtual 192, 3) := by decide +kernel
theorem dX11_check_92 : decode cX11_check 92 = .ok (.aload_n 0, 1) := by decide +kernel
theorem dX11_check_93 : decode cX11_check 93 = .ok (.getfield 22, 3) := by decide +kernel
theorem dX11_check_96 : decode cX11_check 96 = .ok (.getfield 96, 3) := by decide +kernel
theorem dX11_check_99 : decode cX11_check 99 = .ok (.iload_n 1, 1) := by decide +kernel
theorem dX11_check_100 : decode cX11_check 100 = .ok (.iaload, 1) := by decide +kernel
theorem dX11_check_101 : decode cX11_check 101 = .ok (.aload_n 0, 1) := by decide +kernel
theorem dX11_check_102 : decode cX11_check 102 = .ok (.getfield 10, 3) := by decide +kernel
theorem dX11_check_105 : decode cX11_check 105 = .ok (.getfield 361, 3) := by decide +kernel
theorem dX11_check_108 : decode cX11_check 108 = .ok (.iload_n 3, 1) := by decide +kernel
theorem dX11_check_109 : decode cX11_check 109 = .ok (.invokevirtual 346, 3) := by decide +kernel
theorem dX11_check_112 : decode cX11_check 112 = .ok (.if_icmp .eq 7, 3) := by decide +kernel
theorem dX11_check_119 : decode cX11_check 119 = .ok (.iinc 3 1, 3) := by decide +kernel
theorem dX11_check_122 : decode cX11_check 122 = .ok (.goto (-50), 3) := by decide +kernel
theorem dX11_check_115 : decode cX11_check 115 = .ok (.iconst 1, 1) := by decide +kernel
theorem dX11_check_116 : decode cX11_check 116 = .ok (.iload_n 3, 1) := by decide +kernel
theorem dX11_check_117 : decode cX11_check 117 = .ok (.iadd, 1) := by decide +kernel
theorem dX11_check_118 : decode cX11_check 118 = .ok (.ireturn, 1) := by decide +kernel
theorem dX11_check_0 : decode cX11_check 0 = .ok (.aload_n 0, 1) := by decide +kernel
theorem dX11_check_1 : decode cX11_check 1 = .ok (.getfield 10, 3) := by decide +kernel
theorem dX11_check_4 : decode cX11_check 4 = .ok (.getfield 361, 3) := by decide +kernel
theorem dX11_check_7 : decode cX11_check 7 = .ok (.getfield 233, 3) := by decide +kernel
theorem dX11_check_10 : decode cX11_check 10 = .ok (.istore_n 2, 1) := by decide +kernel
theorem dX11_check_11 : decode cX11_check 11 = .ok (.aload_n 0, 1) := by decide +kernel
theorem dX11_check_12 : decode cX11_check 12 = .ok (.getfield 10, 3) := by decide +kernel
theorem dX11_check_15 : decode cX11_check 15 = .ok (.getfield 361, 3) := by decide +kernel
theorem dX11_check_18 : decode cX11_check 18 = .ok (.iconst 0, 1) := by decide +kernel
theorem dX11_check_19 : decode cX11_check 19 = .ok (.putfield 233, 3) := by decide +kernel
theorem dX11_check_22 : decode cX11_check 22 = .ok (.aload_n 0, 1) := by decide +kernel
theorem dX11_check_23 : decode cX11_check 23 = .ok (.getfield 10, 3) := by decide +kernel
theorem dX11_check_26 : decode cX11_check 26 = .ok (.iload_n 1, 1) := by decide +kernel
theorem dX11_check_27 : decode cX11_check 27 = .ok (.invokevirtual 77, 3) := by decide +kernel
theorem dX11_check_30 : decode cX11_check 30 = .ok (.ifCond .ne 9, 3) := by decide +kernel
theorem dX11_check_33 : decode cX11_check 33 = .ok (.aload_n 0, 1) := by decide +kernel
theorem dX11_check_34 : decode cX11_check 34 = .ok (.iconst 1, 1) := by decide +kernel
theorem dX11_check_35 : decode cX11_check 35 = .ok (.invokevirtual 66, 3) := by decide +kernel
theorem dX11_check_38 : decode cX11_check 38 = .ok (.ireturn, 1) := by decide +kernel
theorem dX11_check_39 : decode cX11_check 39 = .ok (.aload_n 0, 1) := by decide +kernel
theorem dX11_check_40 : decode cX11_check 40 = .ok (.getfield 10, 3) := by decide +kernel
theorem dX11_check_43 : decode cX11_check 43 = .ok (.iload_n 1, 1) := by decide +kernel
theorem dX11_check_44 : decode cX11_check 44 = .ok (.invokevirtual 109, 3) := by decide +kernel
theorem dX11_check_47 : decode cX11_check 47 = .ok (.ifCond .ne 9, 3) := by decide +kernel
theorem dX11_check_50 : decode cX11_check 50 = .ok (.aload_n 0, 1) := by decide +kernel
theorem dX11_check_51 : decode cX11_check 51 = .ok (.iconst 5, 1) := by decide +kernel
theorem dX11_check_52 : decode cX11_check 52 = .ok (.invokevirtual 66, 3) := by decide +kernel
theorem dX11_check_55 : decode cX11_check 55 = .ok (.ireturn, 1) := by decide +kernel
theorem dX11_check_56 : decode cX11_check 56 = .ok (.aload_n 0, 1) := by decide +kernel
theorem dX11_check_57 : decode cX11_check 57 = .ok (.getfield 22, 3) := by decide +kernel
theorem dX11_check_60 : decode cX11_check 60 = .ok (.aload_n 0, 1) := by decide +kernel
theorem dX11_check_61 : decode cX11_check 61 = .ok (.getfield 10, 3) := by decide +kernel
theorem dX11_check_64 : decode cX11_check 64 = .ok (.getfield 90, 3) := by decide +kernel
theorem dX11_check_67 : decode cX11_check 67 = .ok (.invokevirtual 364, 3) := by decide +kernel
theorem dX11_check_70 : decode cX11_check 70 = .ok (.iconst 0, 1) := by decide +kernel
theorem dX11_check_71 : decode cX11_check 71 = .ok (.istore_n 3, 1) := by decide +kernel
def D_X11_check_72 (N : Nat) : Nat → mh_H → Nat → Int32 → Int32 → Int32 → Option (Int32 × mh_H)
  | 0, _, _, _, _, _ => none
  | F + 1, h, l0, l1, l2, l3 =>
    if l2 ≤ l3 then (some ((0 : Int32), h))
    else ((gR h 11 l0 2).bind fun v1 =>
    (gR h 11 l0 0).bind fun v2 =>
    (gR h 11 l0 3).bind fun v3 =>
    kO h 8 v1 <|
    (D_X8_passHour N h v1 v2 v3).bind fun q4 =>
    (gR q4 11 l0 2).bind fun v5 =>
    (gR q4 8 v5 8).bind fun v6 =>
    (aI q4 v6 l1).bind fun v7 =>
    (gR q4 11 l0 0).bind fun v8 =>
    (gR q4 10 v8 12).bind fun v9 =>
    kO q4 6 v9 <|
    (D_X6_get N q4 v9 l3).bind fun q10 =>
    if v7 = q10.1 then ((D_X11_check_72 N F) q10.2 l0 l1 l2 (l3 + Int32.ofInt (1)))
    else (some ((1 : Int32) + l3, q10.2)))
set_option maxHeartbeats 4000000 in
set_option maxRecDepth 100000 in
theorem T_X11_check_72 {P : mh_E → Prop} {N d : Nat} (hd : 48 ≤ d) {z : (Int32 × mh_H)} : ∀ (F : Nat) (h : mh_H) (l0 : Nat) (l1 : Int32) (l2 : Int32) (l3 : Int32), D_X11_check_72 N F h l0 l1 l2 l3 = some z → mh_go P d mX11_check 72 [some (.ref l0), some (.int l1), some (.int l2), some (.int l3)] [] h (some (.int z.1)) z.2 := by
  intro F
  induction F with
  | zero => intro h l0 l1 l2 l3 hq; rw [D_X11_check_72] at hq; cases hq
  | succ F ih =>
    intro h l0 l1 l2 l3 hq
    rw [D_X11_check_72] at hq
    refine st_iload_n (pc := 72) dX11_check_72 rfl ?_
    refine st_iload_n (pc := 73) dX11_check_73 rfl ?_
    refine bd_icmp_ge (pc := 74) (tgt := 125) hq dX11_check_74 (by decide) (fun _ hq => ?_) (fun _ hq => ?_)
    ·
      refine st_iconst (pc := 125) (v := (0 : Int32)) dX11_check_125 rfl ?_
      exact bd_iret (pc := 126) hq dX11_check_126 rfl
    ·
      refine st_aload_n (pc := 77) dX11_check_77 rfl ?_
      refine bd_getr (pc := 78) hq dX11_check_78 fl_11_22_11 rfl (fun v1 hq => ?_)
      refine st_aload_n (pc := 81) dX11_check_81 rfl ?_
      refine bd_getr (pc := 82) hq dX11_check_82 fl_11_10_11 rfl (fun v2 hq => ?_)
      refine st_aload_n (pc := 85) dX11_check_85 rfl ?_
      refine bd_getr (pc := 86) hq dX11_check_86 fl_11_29_11 rfl (fun v3 hq => ?_)
      obtain ⟨⟨hbq4, hkq4⟩, hq⟩ := mh_oi hq
      obtain ⟨q4, e4, hq⟩ := mh_ob hq
      refine st_invV (pc := 89) (ci := 8) (vs := [.ref v2, .ref v3]) (rest := []) (st2 := []) dX11_check_89 okX8_passHour (by decide) hkq4 hbq4 wd_501 wd_502 wd_503 pdX8_passHour rfl rfl rfl rfl (Nat.le_trans (by decide) hd) (Nat.le_of_ble_eq_true rfl) (T_X8_passHour (Nat.le_refl _) e4) rfl ?_
      refine st_aload_n (pc := 92) dX11_check_92 rfl ?_
      refine bd_getr (pc := 93) hq dX11_check_93 fl_11_22_11 rfl (fun v5 hq => ?_)
      refine bd_getr (pc := 96) hq dX11_check_96 fl_11_96_8 rfl (fun v6 hq => ?_)
      refine st_iload_n (pc := 99) dX11_check_99 rfl ?_
      refine bd_iald (pc := 100) hq dX11_check_100 (fun v7 hq => ?_)
      refine st_aload_n (pc := 101) dX11_check_101 rfl ?_
      refine bd_getr (pc := 102) hq dX11_check_102 fl_11_10_11 rfl (fun v8 hq => ?_)
      refine bd_getr (pc := 105) hq dX11_check_105 fl_11_361_10 rfl (fun v9 hq => ?_)
      refine st_iload_n (pc := 108) dX11_check_108 rfl ?_
      obtain ⟨⟨hbq10, hkq10⟩, hq⟩ := mh_oi hq
      obtain ⟨q10, e10, hq⟩ := mh_ob hq
      refine st_invV (pc := 109) (ci := 6) (vs := [.int l3]) (rest := [.int v7]) (st2 := [.int q10.1, .int v7]) dX11_check_109 okX6_get (by decide) hkq10 hbq10 wd_1080 wd_1081 wd_1082 pdX6_get rfl rfl rfl rfl (Nat.le_trans (by decide) hd) (Nat.le_of_ble_eq_true rfl) (T_X6_get (Nat.le_refl _) e10) rfl ?_
      refine bd_icmp_eq (pc := 112) (tgt := 119) hq dX11_check_112 (by decide) (fun _ hq => ?_) (fun _ hq => ?_)
      ·
        refine st_iinc (pc := 119) (lv' := [some (.ref l0), some (.int l1), some (.int l2), some (.int (l3 + Int32.ofInt (1)))]) dX11_check_119 rfl rfl (by decide) rfl ?_
        refine st_goto (pc := 122) (tgt := 72) dX11_check_122 (by decide) ?_
        exact ih _ _ _ _ _ hq
      ·
        refine st_iconst (pc := 115) (v := (1 : Int32)) dX11_check_115 rfl ?_
        refine st_iload_n (pc := 116) dX11_check_116 rfl ?_
        refine st_iadd (pc := 117) dX11_check_117 ?_
        exact bd_iret (pc := 118) hq dX11_check_118 rfl
def D_X11_check (N : Nat) (h : mh_H) (l0 : Nat) (l1 : Int32) : Option (Int32 × mh_H) :=
  (gR h 11 l0 0).bind fun v1 =>
  (gR h 10 v1 12).bind fun v2 =>
  (gI h 6 v2 1).bind fun v3 =>
  (gR h 11 l0 0).bind fun v4 =>
  (gR h 10 v4 12).bind fun v5 =>
  (pI h 6 v5 1 (0 : Int32)).bind fun h6 =>
  (gR h6 11 l0 0).bind fun v7 =>
  kO h6 10 v7 <|
  (D_X10_isJoint N h6 v7 l1).bind fun q8 =>
  if q8.1 = 0 then (kO q8.2 11 l0 <|
  (D_X11_error N q8.2 l0 (1 : Int32)).bind fun q9 =>
  some (q9.1, q9.2))
  else ((gR q8.2 11 l0 0).bind fun v9 =>
  kO q8.2 10 v9 <|
  (D_X10_isOutlet N q8.2 v9 l1).bind fun q10 =>
  if q10.1 = 0 then (kO q10.2 11 l0 <|
  (D_X11_error N q10.2 l0 (5 : Int32)).bind fun q11 =>
  some (q11.1, q11.2))
  else ((gR q10.2 11 l0 2).bind fun v11 =>
  (gR q10.2 11 l0 0).bind fun v12 =>
  (gR q10.2 10 v12 7).bind fun v13 =>
  kO q10.2 8 v11 <|
  (D_X8_copyOf N q10.2 v11 v13).bind fun q14 =>
  D_X11_check_72 N N q14 l0 l1 v3 (0 : Int32)))
set_option maxHeartbeats 4000000 in
set_option maxRecDepth 100000 in
theorem T_X11_check {P : mh_E → Prop} {N d : Nat} (hd : 48 ≤ d) {z : (Int32 × mh_H)} {h : mh_H} {l0 : Nat} {l1 : Int32} (hq : D_X11_check N h l0 l1 = some z) : mh_go P d mX11_check 0 [some (.ref l0), some (.int l1), none, none] [] h (some (.int z.1)) z.2 := by
  unfold D_X11_check at hq
  refine st_aload_n (pc := 0) dX11_check_0 rfl ?_
  refine bd_getr (pc := 1) hq dX11_check_1 fl_11_10_11 rfl (fun v1 hq => ?_)
  refine bd_getr (pc := 4) hq dX11_check_4 fl_11_361_10 rfl (fun v2 hq => ?_)
  refine bd_geti (pc := 7) hq dX11_check_7 fl_11_233_6 rfl (fun v3 hq => ?_)
  refine st_istore_n (pc := 10) (lv' := [some (.ref l0), some (.int l1), some (.int v3), none]) dX11_check_10 rfl (by decide) rfl ?_
  refine st_aload_n (pc := 11) dX11_check_11 rfl ?_
  refine bd_getr (pc := 12) hq dX11_check_12 fl_11_10_11 rfl (fun v4 hq => ?_)
  refine bd_getr (pc := 15) hq dX11_check_15 fl_11_361_10 rfl (fun v5 hq => ?_)
  refine st_iconst (pc := 18) (v := (0 : Int32)) dX11_check_18 rfl ?_
  refine bd_puti (pc := 19) hq dX11_check_19 fl_11_233_6 (Or.inl rfl) rfl (fun h6 hq => ?_)
  refine st_aload_n (pc := 22) dX11_check_22 rfl ?_
  refine bd_getr (pc := 23) hq dX11_check_23 fl_11_10_11 rfl (fun v7 hq => ?_)
  refine st_iload_n (pc := 26) dX11_check_26 rfl ?_
  obtain ⟨⟨hbq8, hkq8⟩, hq⟩ := mh_oi hq
  obtain ⟨q8, e8, hq⟩ := mh_ob hq
  refine st_invV (pc := 27) (ci := 10) (vs := [.int l1]) (rest := []) (st2 := [.int q8.1]) dX11_check_27 okX10_isJoint (by decide) hkq8 hbq8 wd_327 wd_328 wd_329 pdX10_isJoint rfl rfl rfl rfl (Nat.le_trans (by decide) hd) (Nat.le_of_ble_eq_true rfl) (T_X10_isJoint (Nat.le_refl _) e8) rfl ?_
  refine bd_if_ne (pc := 30) (tgt := 39) hq dX11_check_30 (by decide) (fun _ hq => ?_) (fun _ hq => ?_)
  ·
    refine st_aload_n (pc := 33) dX11_check_33 rfl ?_
    refine st_iconst (pc := 34) (v := (1 : Int32)) dX11_check_34 rfl ?_
    obtain ⟨⟨hbq9, hkq9⟩, hq⟩ := mh_oi hq
    obtain ⟨q9, e9, hq⟩ := mh_ob hq
    refine st_invV (pc := 35) (ci := 11) (vs := [.int (1 : Int32)]) (rest := []) (st2 := [.int q9.1]) dX11_check_35 okX11_error (by decide) hkq9 hbq9 wd_314 wd_316 wp_0 pdX11_error rfl rfl rfl rfl (Nat.le_trans (by decide) hd) (Nat.le_of_ble_eq_true rfl) (T_X11_error (Nat.le_refl _) e9) rfl ?_
    exact bd_iret (pc := 38) hq dX11_check_38 rfl
  ·
    refine st_aload_n (pc := 39) dX11_check_39 rfl ?_
    refine bd_getr (pc := 40) hq dX11_check_40 fl_11_10_11 rfl (fun v9 hq => ?_)
    refine st_iload_n (pc := 43) dX11_check_43 rfl ?_
    obtain ⟨⟨hbq10, hkq10⟩, hq⟩ := mh_oi hq
    obtain ⟨q10, e10, hq⟩ := mh_ob hq
    refine st_invV (pc := 44) (ci := 10) (vs := [.int l1]) (rest := []) (st2 := [.int q10.1]) dX11_check_44 okX10_isOutlet (by decide) hkq10 hbq10 wd_338 wd_339 wd_340 pdX10_isOutlet rfl rfl rfl rfl (Nat.le_trans (by decide) hd) (Nat.le_of_ble_eq_true rfl) (T_X10_isOutlet (Nat.le_refl _) e10) rfl ?_
    refine bd_if_ne (pc := 47) (tgt := 56) hq dX11_check_47 (by decide) (fun _ hq => ?_) (fun _ hq => ?_)
    ·
      refine st_aload_n (pc := 50) dX11_check_50 rfl ?_
      refine st_iconst (pc := 51) (v := (5 : Int32)) dX11_check_51 rfl ?_
      obtain ⟨⟨hbq11, hkq11⟩, hq⟩ := mh_oi hq
      obtain ⟨q11, e11, hq⟩ := mh_ob hq
      refine st_invV (pc := 52) (ci := 11) (vs := [.int (5 : Int32)]) (rest := []) (st2 := [.int q11.1]) dX11_check_52 okX11_error (by decide) hkq11 hbq11 wd_314 wd_316 wp_0 pdX11_error rfl rfl rfl rfl (Nat.le_trans (by decide) hd) (Nat.le_of_ble_eq_true rfl) (T_X11_error (Nat.le_refl _) e11) rfl ?_
      exact bd_iret (pc := 55) hq dX11_check_55 rfl
    ·
      refine st_aload_n (pc := 56) dX11_check_56 rfl ?_
      refine bd_getr (pc := 57) hq dX11_check_57 fl_11_22_11 rfl (fun v11 hq => ?_)
      refine st_aload_n (pc := 60) dX11_check_60 rfl ?_
      refine bd_getr (pc := 61) hq dX11_check_61 fl_11_10_11 rfl (fun v12 hq => ?_)
      refine bd_getr (pc := 64) hq dX11_check_64 fl_11_90_10 rfl (fun v13 hq => ?_)
      obtain ⟨⟨hbq14, hkq14⟩, hq⟩ := mh_oi hq
      obtain ⟨q14, e14, hq⟩ := mh_ob hq
      refine st_invV (pc := 67) (ci := 8) (vs := [.ref v13]) (rest := []) (st2 := []) dX11_check_67 okX8_copyOf (by decide) hkq14 hbq14 wd_1128 wd_761 wd_762 pdX8_copyOf rfl rfl rfl rfl (Nat.le_trans (by decide) hd) (Nat.le_of_ble_eq_true rfl) (T_X8_copyOf (Nat.le_refl _) e14) rfl ?_
      refine st_iconst (pc := 70) (v := (0 : Int32)) dX11_check_70 rfl ?_
      refine st_istore_n (pc := 71) (lv' := [some (.ref l0), some (.int l1), some (.int v3), some (.int (0 : Int32))]) dX11_check_71 rfl (by decide) rfl ?_
      exact T_X11_check_72 hd N _ _ _ _ _ hq
-- HoleWater$Looks.howManySaw()I
theorem dX1_howManySaw_4 : decode cX1_howManySaw 4 = .ok (.iload_n 2, 1) := by decide +kernel
theorem dX1_howManySaw_5 : decode cX1_howManySaw 5 = .ok (.aload_n 0, 1) := by decide +kernel
theorem dX1_howManySaw_6 : decode cX1_howManySaw 6 = .ok (.getfield 15, 3) := by decide +kernel
theorem dX1_howManySaw_9 : decode cX1_howManySaw 9 = .ok (.if_icmp .ge 18, 3) := by decide +kernel
theorem dX1_howManySaw_27 : decode cX1_howManySaw 27 = .ok (.iload_n 1, 1) := by decide +kernel
theorem dX1_howManySaw_28 : decode cX1_howManySaw 28 = .ok (.ireturn, 1) := by decide +kernel
theorem dX1_howManySaw_12 : decode cX1_howManySaw 12 = .ok (.iload_n 1, 1) := by decide +kernel
theorem dX1_howManySaw_13 : decode cX1_howManySaw 13 = .ok (.aload_n 0, 1) := by decide +kernel
theorem dX1_howManySaw_14 : decode cX1_howManySaw 14 = .ok (.iload_n 2, 1) := by decide +kernel
theorem dX1_howManySaw_15 : decode cX1_howManySaw 15 = .ok (.iconst 4, 1) := by decide +kernel
theorem dX1_howManySaw_16 : decode cX1_howManySaw 16 = .ok (.invokevirtual 60, 3) := by decide +kernel
theorem dX1_howManySaw_19 : decode cX1_howManySaw 19 = .ok (.iadd, 1) := by decide +kernel
theorem dX1_howManySaw_20 : decode cX1_howManySaw 20 = .ok (.istore_n 1, 1) := by decide +kernel
theorem dX1_howManySaw_21 : decode cX1_howManySaw 21 = .ok (.iinc 2 1, 3) := by decide +kernel
theorem dX1_howManySaw_24 : decode cX1_howManySaw 24 = .ok (.goto (-20), 3) := by decide +kernel
theorem dX1_howManySaw_0 : decode cX1_howManySaw 0 = .ok (.iconst 0, 1) := by decide +kernel
theorem dX1_howManySaw_1 : decode cX1_howManySaw 1 = .ok (.istore_n 1, 1) := by decide +kernel
theorem dX1_howManySaw_2 : decode cX1_howManySaw 2 = .ok (.iconst 0, 1) := by decide +kernel
theorem dX1_howManySaw_3 : decode cX1_howManySaw 3 = .ok (.istore_n 2, 1) := by decide +kernel
def D_X1_howManySaw_4 (N : Nat) : Nat → mh_H → Nat → Int32 → Int32 → Option (Int32 × mh_H)
  | 0, _, _, _, _ => none
  | F + 1, h, l0, l1, l2 =>
    (gI h 1 l0 1).bind fun v1 =>
    if v1 ≤ l2 then (some (l1, h))
    else (kO h 1 l0 <|
    (D_X1_lookPart N h l0 l2 (4 : Int32)).bind fun q2 =>
    (D_X1_howManySaw_4 N F) q2.2 l0 (l1 + q2.1) (l2 + Int32.ofInt (1)))
set_option maxHeartbeats 4000000 in
set_option maxRecDepth 100000 in
theorem T_X1_howManySaw_4 {P : mh_E → Prop} {N d : Nat} (hd : 2 ≤ d) {z : (Int32 × mh_H)} : ∀ (F : Nat) (h : mh_H) (l0 : Nat) (l1 : Int32) (l2 : Int32), D_X1_howManySaw_4 N F h l0 l1 l2 = some z → mh_go P d mX1_howManySaw 4 [some (.ref l0), some (.int l1), some (.int l2)] [] h (some (.int z.1)) z.2 := by
  intro F
  induction F with
  | zero => intro h l0 l1 l2 hq; rw [D_X1_howManySaw_4] at hq; cases hq
  | succ F ih =>
    intro h l0 l1 l2 hq
    rw [D_X1_howManySaw_4] at hq
    refine st_iload_n (pc := 4) dX1_howManySaw_4 rfl ?_
    refine st_aload_n (pc := 5) dX1_howManySaw_5 rfl ?_
    refine bd_geti (pc := 6) hq dX1_howManySaw_6 fl_1_15_1 rfl (fun v1 hq => ?_)
    refine bd_icmp_ge (pc := 9) (tgt := 27) hq dX1_howManySaw_9 (by decide) (fun _ hq => ?_) (fun _ hq => ?_)
    ·
      refine st_iload_n (pc := 27) dX1_howManySaw_27 rfl ?_
      exact bd_iret (pc := 28) hq dX1_howManySaw_28 rfl
    ·
      refine st_iload_n (pc := 12) dX1_howManySaw_12 rfl ?_
      refine st_aload_n (pc := 13) dX1_howManySaw_13 rfl ?_
      refine st_iload_n (pc := 14) dX1_howManySaw_14 rfl ?_
      refine st_iconst (pc := 15) (v := (4 : Int32)) dX1_howManySaw_15 rfl ?_
      obtain ⟨⟨hbq2, hkq2⟩, hq⟩ := mh_oi hq
      obtain ⟨q2, e2, hq⟩ := mh_ob hq
      refine st_invV (pc := 16) (ci := 1) (vs := [.int l2, .int (4 : Int32)]) (rest := [.int l1]) (st2 := [.int q2.1, .int l1]) dX1_howManySaw_16 okX1_lookPart (by decide) hkq2 hbq2 wd_853 wd_854 wd_855 pdX1_lookPart rfl rfl rfl rfl (Nat.le_trans (by decide) hd) (Nat.le_of_ble_eq_true rfl) (T_X1_lookPart (Nat.le_refl _) e2) rfl ?_
      refine st_iadd (pc := 19) dX1_howManySaw_19 ?_
      refine st_istore_n (pc := 20) (lv' := [some (.ref l0), some (.int (l1 + q2.1)), some (.int l2)]) dX1_howManySaw_20 rfl (by decide) rfl ?_
      refine st_iinc (pc := 21) (lv' := [some (.ref l0), some (.int (l1 + q2.1)), some (.int (l2 + Int32.ofInt (1)))]) dX1_howManySaw_21 rfl rfl (by decide) rfl ?_
      refine st_goto (pc := 24) (tgt := 4) dX1_howManySaw_24 (by decide) ?_
      exact ih _ _ _ _ hq
def D_X1_howManySaw (N : Nat) (h : mh_H) (l0 : Nat) : Option (Int32 × mh_H) :=
  D_X1_howManySaw_4 N N h l0 (0 : Int32) (0 : Int32)
set_option maxHeartbeats 4000000 in
set_option maxRecDepth 100000 in
theorem T_X1_howManySaw {P : mh_E → Prop} {N d : Nat} (hd : 2 ≤ d) {z : (Int32 × mh_H)} {h : mh_H} {l0 : Nat} (hq : D_X1_howManySaw N h l0 = some z) : mh_go P d mX1_howManySaw 0 [some (.ref l0), none, none] [] h (some (.int z.1)) z.2 := by
  unfold D_X1_howManySaw at hq
  refine st_iconst (pc := 0) (v := (0 : Int32)) dX1_howManySaw_0 rfl ?_
  refine st_istore_n (pc := 1) (lv' := [some (.ref l0), some (.int (0 : Int32)), none]) dX1_howManySaw_1 rfl (by decide) rfl ?_
  refine st_iconst (pc := 2) (v := (0 : Int32)) dX1_howManySaw_2 rfl ?_
  refine st_istore_n (pc := 3) (lv' := [some (.ref l0), some (.int (0 : Int32)), some (.int (0 : Int32))]) dX1_howManySaw_3 rfl (by decide) rfl ?_
  exact T_X1_howManySaw_4 hd N _ _ _ _ hq
-- HoleWater.count(I)I
theorem dX11_count_0 : decode cX11_count 0 = .ok (.iload_n 1, 1) := by decide +kernel
theorem dX11_count_1 : decode cX11_count 1 = .ok (.tableswitch 192 0 11 #[63, 74, 82, 90, 101, 112, 123, 134, 145, 153, 172, 183], 63) := by decide +kernel
theorem dX11_count_64 : decode cX11_count 64 = .ok (.aload_n 0, 1) := by decide +kernel
theorem dX11_count_65 : decode cX11_count 65 = .ok (.getfield 10, 3) := by decide +kernel
theorem dX11_count_68 : decode cX11_count 68 = .ok (.getfield 90, 3) := by decide +kernel
theorem dX11_count_71 : decode cX11_count 71 = .ok (.getfield 189, 3) := by decide +kernel
theorem dX11_count_74 : decode cX11_count 74 = .ok (.ireturn, 1) := by decide +kernel
theorem dX11_count_75 : decode cX11_count 75 = .ok (.aload_n 0, 1) := by decide +kernel
theorem dX11_count_76 : decode cX11_count 76 = .ok (.getfield 10, 3) := by decide +kernel
theorem dX11_count_79 : decode cX11_count 79 = .ok (.getfield 70, 3) := by decide +kernel
theorem dX11_count_82 : decode cX11_count 82 = .ok (.ireturn, 1) := by decide +kernel
theorem dX11_count_83 : decode cX11_count 83 = .ok (.aload_n 0, 1) := by decide +kernel
theorem dX11_count_84 : decode cX11_count 84 = .ok (.getfield 10, 3) := by decide +kernel
theorem dX11_count_87 : decode cX11_count 87 = .ok (.getfield 116, 3) := by decide +kernel
theorem dX11_count_90 : decode cX11_count 90 = .ok (.ireturn, 1) := by decide +kernel
theorem dX11_count_91 : decode cX11_count 91 = .ok (.aload_n 0, 1) := by decide +kernel
theorem dX11_count_92 : decode cX11_count 92 = .ok (.getfield 10, 3) := by decide +kernel
theorem dX11_count_95 : decode cX11_count 95 = .ok (.getfield 196, 3) := by decide +kernel
theorem dX11_count_98 : decode cX11_count 98 = .ok (.getfield 200, 3) := by decide +kernel
theorem dX11_count_101 : decode cX11_count 101 = .ok (.ireturn, 1) := by decide +kernel
theorem dX11_count_102 : decode cX11_count 102 = .ok (.aload_n 0, 1) := by decide +kernel
theorem dX11_count_103 : decode cX11_count 103 = .ok (.getfield 10, 3) := by decide +kernel
theorem dX11_count_106 : decode cX11_count 106 = .ok (.getfield 196, 3) := by decide +kernel
theorem dX11_count_109 : decode cX11_count 109 = .ok (.getfield 272, 3) := by decide +kernel
theorem dX11_count_112 : decode cX11_count 112 = .ok (.ireturn, 1) := by decide +kernel
theorem dX11_count_113 : decode cX11_count 113 = .ok (.aload_n 0, 1) := by decide +kernel
theorem dX11_count_114 : decode cX11_count 114 = .ok (.getfield 10, 3) := by decide +kernel
theorem dX11_count_117 : decode cX11_count 117 = .ok (.getfield 196, 3) := by decide +kernel
theorem dX11_count_120 : decode cX11_count 120 = .ok (.invokevirtual 367, 3) := by decide +kernel
theorem dX11_count_123 : decode cX11_count 123 = .ok (.ireturn, 1) := by decide +kernel
theorem dX11_count_124 : decode cX11_count 124 = .ok (.aload_n 0, 1) := by decide +kernel
theorem dX11_count_125 : decode cX11_count 125 = .ok (.getfield 10, 3) := by decide +kernel
theorem dX11_count_128 : decode cX11_count 128 = .ok (.getfield 230, 3) := by decide +kernel
theorem dX11_count_131 : decode cX11_count 131 = .ok (.getfield 233, 3) := by decide +kernel
theorem dX11_count_134 : decode cX11_count 134 = .ok (.ireturn, 1) := by decide +kernel
theorem dX11_count_135 : decode cX11_count 135 = .ok (.aload_n 0, 1) := by decide +kernel
theorem dX11_count_136 : decode cX11_count 136 = .ok (.getfield 10, 3) := by decide +kernel
theorem dX11_count_139 : decode cX11_count 139 = .ok (.getfield 361, 3) := by decide +kernel
theorem dX11_count_142 : decode cX11_count 142 = .ok (.getfield 233, 3) := by decide +kernel
theorem dX11_count_145 : decode cX11_count 145 = .ok (.ireturn, 1) := by decide +kernel
theorem dX11_count_146 : decode cX11_count 146 = .ok (.aload_n 0, 1) := by decide +kernel
theorem dX11_count_147 : decode cX11_count 147 = .ok (.getfield 38, 3) := by decide +kernel
theorem dX11_count_150 : decode cX11_count 150 = .ok (.getfield 233, 3) := by decide +kernel
theorem dX11_count_153 : decode cX11_count 153 = .ok (.ireturn, 1) := by decide +kernel
theorem dX11_count_154 : decode cX11_count 154 = .ok (.aload_n 0, 1) := by decide +kernel
theorem dX11_count_155 : decode cX11_count 155 = .ok (.getfield 10, 3) := by decide +kernel
theorem dX11_count_158 : decode cX11_count 158 = .ok (.getfield 90, 3) := by decide +kernel
theorem dX11_count_161 : decode cX11_count 161 = .ok (.getfield 179, 3) := by decide +kernel
theorem dX11_count_164 : decode cX11_count 164 = .ok (.ifCond .eq 7, 3) := by decide +kernel
theorem dX11_count_171 : decode cX11_count 171 = .ok (.iconst 0, 1) := by decide +kernel
theorem dX11_count_172 : decode cX11_count 172 = .ok (.ireturn, 1) := by decide +kernel
theorem dX11_count_167 : decode cX11_count 167 = .ok (.iconst 1, 1) := by decide +kernel
theorem dX11_count_168 : decode cX11_count 168 = .ok (.goto 4, 3) := by decide +kernel
theorem dX11_count_173 : decode cX11_count 173 = .ok (.aload_n 0, 1) := by decide +kernel
theorem dX11_count_174 : decode cX11_count 174 = .ok (.getfield 10, 3) := by decide +kernel
theorem dX11_count_177 : decode cX11_count 177 = .ok (.getfield 90, 3) := by decide +kernel
theorem dX11_count_180 : decode cX11_count 180 = .ok (.getfield 370, 3) := by decide +kernel
theorem dX11_count_183 : decode cX11_count 183 = .ok (.ireturn, 1) := by decide +kernel
theorem dX11_count_184 : decode cX11_count 184 = .ok (.aload_n 0, 1) := by decide +kernel
theorem dX11_count_185 : decode cX11_count 185 = .ok (.getfield 10, 3) := by decide +kernel
theorem dX11_count_188 : decode cX11_count 188 = .ok (.iconst 0, 1) := by decide +kernel
theorem dX11_count_189 : decode cX11_count 189 = .ok (.invokevirtual 214, 3) := by decide +kernel
theorem dX11_count_192 : decode cX11_count 192 = .ok (.ireturn, 1) := by decide +kernel
theorem dX11_count_193 : decode cX11_count 193 = .ok (.aload_n 0, 1) := by decide +kernel
theorem dX11_count_194 : decode cX11_count 194 = .ok (.iconst 1, 1) := by decide +kernel
theorem dX11_count_195 : decode cX11_count 195 = .ok (.invokevirtual 66, 3) := by decide +kernel
theorem dX11_count_198 : decode cX11_count 198 = .ok (.ireturn, 1) := by decide +kernel
def D_X11_count (N : Nat) (h : mh_H) (l0 : Nat) (l1 : Int32) : Option (Int32 × mh_H) :=
  if l1 = 0 then ((gR h 11 l0 0).bind fun v1 =>
  (gR h 10 v1 7).bind fun v2 =>
  (gI h 8 v2 0).bind fun v3 =>
  some (v3, h))
  else if l1 = 1 then ((gR h 11 l0 0).bind fun v1 =>
  (gI h 10 v1 0).bind fun v2 =>
  some (v2, h))
  else if l1 = 2 then ((gR h 11 l0 0).bind fun v1 =>
  (gI h 10 v1 1).bind fun v2 =>
  some (v2, h))
  else if l1 = 3 then ((gR h 11 l0 0).bind fun v1 =>
  (gR h 10 v1 8).bind fun v2 =>
  (gI h 1 v2 0).bind fun v3 =>
  some (v3, h))
  else if l1 = 4 then ((gR h 11 l0 0).bind fun v1 =>
  (gR h 10 v1 8).bind fun v2 =>
  (gI h 1 v2 1).bind fun v3 =>
  some (v3, h))
  else if l1 = 5 then ((gR h 11 l0 0).bind fun v1 =>
  (gR h 10 v1 8).bind fun v2 =>
  kO h 1 v2 <|
  (D_X1_howManySaw N h v2).bind fun q3 =>
  some (q3.1, q3.2))
  else if l1 = 6 then ((gR h 11 l0 0).bind fun v1 =>
  (gR h 10 v1 9).bind fun v2 =>
  (gI h 6 v2 1).bind fun v3 =>
  some (v3, h))
  else if l1 = 7 then ((gR h 11 l0 0).bind fun v1 =>
  (gR h 10 v1 12).bind fun v2 =>
  (gI h 6 v2 1).bind fun v3 =>
  some (v3, h))
  else if l1 = 8 then ((gR h 11 l0 4).bind fun v1 =>
  (gI h 6 v1 1).bind fun v2 =>
  some (v2, h))
  else if l1 = 9 then ((gR h 11 l0 0).bind fun v1 =>
  (gR h 10 v1 7).bind fun v2 =>
  (gI h 8 v2 1).bind fun v3 =>
  if v3 = 0 then (some ((0 : Int32), h))
  else (some ((1 : Int32), h)))
  else if l1 = 10 then ((gR h 11 l0 0).bind fun v1 =>
  (gR h 10 v1 7).bind fun v2 =>
  (gI h 8 v2 2).bind fun v3 =>
  some (v3, h))
  else if l1 = 11 then ((gR h 11 l0 0).bind fun v1 =>
  kO h 10 v1 <|
  (D_X10_allBelow N h v1 (0 : Int32)).bind fun q2 =>
  some (q2.1, q2.2))
  else (kO h 11 l0 <|
  (D_X11_error N h l0 (1 : Int32)).bind fun q1 =>
  some (q1.1, q1.2))
set_option maxHeartbeats 4000000 in
set_option maxRecDepth 100000 in
theorem T_X11_count {P : mh_E → Prop} {N d : Nat} (hd : 3 ≤ d) {z : (Int32 × mh_H)} {h : mh_H} {l0 : Nat} {l1 : Int32} (hq : D_X11_count N h l0 l1 = some z) : mh_go P d mX11_count 0 [some (.ref l0), some (.int l1)] [] h (some (.int z.1)) z.2 := by
  unfold D_X11_count at hq
  refine st_iload_n (pc := 0) dX11_count_0 rfl ?_
  by_cases c0 : l1 = 0
  ·
    rw [if_pos c0] at hq
    refine st_tin (pc := 1) (tgt := 64) dX11_count_1 (by rw [c0]; decide) (by rw [c0]; decide) (by rw [c0]; rfl) (by decide) ?_
    refine st_aload_n (pc := 64) dX11_count_64 rfl ?_
    refine bd_getr (pc := 65) hq dX11_count_65 fl_11_10_11 rfl (fun v1 hq => ?_)
    refine bd_getr (pc := 68) hq dX11_count_68 fl_11_90_10 rfl (fun v2 hq => ?_)
    refine bd_geti (pc := 71) hq dX11_count_71 fl_11_189_8 rfl (fun v3 hq => ?_)
    exact bd_iret (pc := 74) hq dX11_count_74 rfl
  ·
    rw [if_neg c0] at hq
    by_cases c1 : l1 = 1
    ·
      rw [if_pos c1] at hq
      refine st_tin (pc := 1) (tgt := 75) dX11_count_1 (by rw [c1]; decide) (by rw [c1]; decide) (by rw [c1]; rfl) (by decide) ?_
      refine st_aload_n (pc := 75) dX11_count_75 rfl ?_
      refine bd_getr (pc := 76) hq dX11_count_76 fl_11_10_11 rfl (fun v1 hq => ?_)
      refine bd_geti (pc := 79) hq dX11_count_79 fl_11_70_10 rfl (fun v2 hq => ?_)
      exact bd_iret (pc := 82) hq dX11_count_82 rfl
    ·
      rw [if_neg c1] at hq
      by_cases c2 : l1 = 2
      ·
        rw [if_pos c2] at hq
        refine st_tin (pc := 1) (tgt := 83) dX11_count_1 (by rw [c2]; decide) (by rw [c2]; decide) (by rw [c2]; rfl) (by decide) ?_
        refine st_aload_n (pc := 83) dX11_count_83 rfl ?_
        refine bd_getr (pc := 84) hq dX11_count_84 fl_11_10_11 rfl (fun v1 hq => ?_)
        refine bd_geti (pc := 87) hq dX11_count_87 fl_11_116_10 rfl (fun v2 hq => ?_)
        exact bd_iret (pc := 90) hq dX11_count_90 rfl
      ·
        rw [if_neg c2] at hq
        by_cases c3 : l1 = 3
        ·
          rw [if_pos c3] at hq
          refine st_tin (pc := 1) (tgt := 91) dX11_count_1 (by rw [c3]; decide) (by rw [c3]; decide) (by rw [c3]; rfl) (by decide) ?_
          refine st_aload_n (pc := 91) dX11_count_91 rfl ?_
          refine bd_getr (pc := 92) hq dX11_count_92 fl_11_10_11 rfl (fun v1 hq => ?_)
          refine bd_getr (pc := 95) hq dX11_count_95 fl_11_196_10 rfl (fun v2 hq => ?_)
          refine bd_geti (pc := 98) hq dX11_count_98 fl_11_200_1 rfl (fun v3 hq => ?_)
          exact bd_iret (pc := 101) hq dX11_count_101 rfl
        ·
          rw [if_neg c3] at hq
          by_cases c4 : l1 = 4
          ·
            rw [if_pos c4] at hq
            refine st_tin (pc := 1) (tgt := 102) dX11_count_1 (by rw [c4]; decide) (by rw [c4]; decide) (by rw [c4]; rfl) (by decide) ?_
            refine st_aload_n (pc := 102) dX11_count_102 rfl ?_
            refine bd_getr (pc := 103) hq dX11_count_103 fl_11_10_11 rfl (fun v1 hq => ?_)
            refine bd_getr (pc := 106) hq dX11_count_106 fl_11_196_10 rfl (fun v2 hq => ?_)
            refine bd_geti (pc := 109) hq dX11_count_109 fl_11_272_1 rfl (fun v3 hq => ?_)
            exact bd_iret (pc := 112) hq dX11_count_112 rfl
          ·
            rw [if_neg c4] at hq
            by_cases c5 : l1 = 5
            ·
              rw [if_pos c5] at hq
              refine st_tin (pc := 1) (tgt := 113) dX11_count_1 (by rw [c5]; decide) (by rw [c5]; decide) (by rw [c5]; rfl) (by decide) ?_
              refine st_aload_n (pc := 113) dX11_count_113 rfl ?_
              refine bd_getr (pc := 114) hq dX11_count_114 fl_11_10_11 rfl (fun v1 hq => ?_)
              refine bd_getr (pc := 117) hq dX11_count_117 fl_11_196_10 rfl (fun v2 hq => ?_)
              obtain ⟨⟨hbq3, hkq3⟩, hq⟩ := mh_oi hq
              obtain ⟨q3, e3, hq⟩ := mh_ob hq
              refine st_invV (pc := 120) (ci := 1) (vs := []) (rest := []) (st2 := [.int q3.1]) dX11_count_120 okX1_howManySaw (by decide) hkq3 hbq3 wd_1133 wd_1134 wd_1135 pdX1_howManySaw rfl rfl rfl rfl (Nat.le_trans (by decide) hd) (Nat.le_of_ble_eq_true rfl) (T_X1_howManySaw (Nat.le_refl _) e3) rfl ?_
              exact bd_iret (pc := 123) hq dX11_count_123 rfl
            ·
              rw [if_neg c5] at hq
              by_cases c6 : l1 = 6
              ·
                rw [if_pos c6] at hq
                refine st_tin (pc := 1) (tgt := 124) dX11_count_1 (by rw [c6]; decide) (by rw [c6]; decide) (by rw [c6]; rfl) (by decide) ?_
                refine st_aload_n (pc := 124) dX11_count_124 rfl ?_
                refine bd_getr (pc := 125) hq dX11_count_125 fl_11_10_11 rfl (fun v1 hq => ?_)
                refine bd_getr (pc := 128) hq dX11_count_128 fl_11_230_10 rfl (fun v2 hq => ?_)
                refine bd_geti (pc := 131) hq dX11_count_131 fl_11_233_6 rfl (fun v3 hq => ?_)
                exact bd_iret (pc := 134) hq dX11_count_134 rfl
              ·
                rw [if_neg c6] at hq
                by_cases c7 : l1 = 7
                ·
                  rw [if_pos c7] at hq
                  refine st_tin (pc := 1) (tgt := 135) dX11_count_1 (by rw [c7]; decide) (by rw [c7]; decide) (by rw [c7]; rfl) (by decide) ?_
                  refine st_aload_n (pc := 135) dX11_count_135 rfl ?_
                  refine bd_getr (pc := 136) hq dX11_count_136 fl_11_10_11 rfl (fun v1 hq => ?_)
                  refine bd_getr (pc := 139) hq dX11_count_139 fl_11_361_10 rfl (fun v2 hq => ?_)
                  refine bd_geti (pc := 142) hq dX11_count_142 fl_11_233_6 rfl (fun v3 hq => ?_)
                  exact bd_iret (pc := 145) hq dX11_count_145 rfl
                ·
                  rw [if_neg c7] at hq
                  by_cases c8 : l1 = 8
                  ·
                    rw [if_pos c8] at hq
                    refine st_tin (pc := 1) (tgt := 146) dX11_count_1 (by rw [c8]; decide) (by rw [c8]; decide) (by rw [c8]; rfl) (by decide) ?_
                    refine st_aload_n (pc := 146) dX11_count_146 rfl ?_
                    refine bd_getr (pc := 147) hq dX11_count_147 fl_11_38_11 rfl (fun v1 hq => ?_)
                    refine bd_geti (pc := 150) hq dX11_count_150 fl_11_233_6 rfl (fun v2 hq => ?_)
                    exact bd_iret (pc := 153) hq dX11_count_153 rfl
                  ·
                    rw [if_neg c8] at hq
                    by_cases c9 : l1 = 9
                    ·
                      rw [if_pos c9] at hq
                      refine st_tin (pc := 1) (tgt := 154) dX11_count_1 (by rw [c9]; decide) (by rw [c9]; decide) (by rw [c9]; rfl) (by decide) ?_
                      refine st_aload_n (pc := 154) dX11_count_154 rfl ?_
                      refine bd_getr (pc := 155) hq dX11_count_155 fl_11_10_11 rfl (fun v1 hq => ?_)
                      refine bd_getr (pc := 158) hq dX11_count_158 fl_11_90_10 rfl (fun v2 hq => ?_)
                      refine bd_geti (pc := 161) hq dX11_count_161 fl_11_179_8 rfl (fun v3 hq => ?_)
                      refine bd_if_eq (pc := 164) (tgt := 171) hq dX11_count_164 (by decide) (fun _ hq => ?_) (fun _ hq => ?_)
                      ·
                        refine st_iconst (pc := 171) (v := (0 : Int32)) dX11_count_171 rfl ?_
                        exact bd_iret (pc := 172) hq dX11_count_172 rfl
                      ·
                        refine st_iconst (pc := 167) (v := (1 : Int32)) dX11_count_167 rfl ?_
                        refine st_goto (pc := 168) (tgt := 172) dX11_count_168 (by decide) ?_
                        exact bd_iret (pc := 172) hq dX11_count_172 rfl
                    ·
                      rw [if_neg c9] at hq
                      by_cases c10 : l1 = 10
                      ·
                        rw [if_pos c10] at hq
                        refine st_tin (pc := 1) (tgt := 173) dX11_count_1 (by rw [c10]; decide) (by rw [c10]; decide) (by rw [c10]; rfl) (by decide) ?_
                        refine st_aload_n (pc := 173) dX11_count_173 rfl ?_
                        refine bd_getr (pc := 174) hq dX11_count_174 fl_11_10_11 rfl (fun v1 hq => ?_)
                        refine bd_getr (pc := 177) hq dX11_count_177 fl_11_90_10 rfl (fun v2 hq => ?_)
                        refine bd_geti (pc := 180) hq dX11_count_180 fl_11_370_8 rfl (fun v3 hq => ?_)
                        exact bd_iret (pc := 183) hq dX11_count_183 rfl
                      ·
                        rw [if_neg c10] at hq
                        by_cases c11 : l1 = 11
                        ·
                          rw [if_pos c11] at hq
                          refine st_tin (pc := 1) (tgt := 184) dX11_count_1 (by rw [c11]; decide) (by rw [c11]; decide) (by rw [c11]; rfl) (by decide) ?_
                          refine st_aload_n (pc := 184) dX11_count_184 rfl ?_
                          refine bd_getr (pc := 185) hq dX11_count_185 fl_11_10_11 rfl (fun v1 hq => ?_)
                          refine st_iconst (pc := 188) (v := (0 : Int32)) dX11_count_188 rfl ?_
                          obtain ⟨⟨hbq2, hkq2⟩, hq⟩ := mh_oi hq
                          obtain ⟨q2, e2, hq⟩ := mh_ob hq
                          refine st_invV (pc := 189) (ci := 10) (vs := [.int (0 : Int32)]) (rest := []) (st2 := [.int q2.1]) dX11_count_189 okX10_allBelow (by decide) hkq2 hbq2 wd_735 wd_736 wd_737 pdX10_allBelow rfl rfl rfl rfl (Nat.le_trans (by decide) hd) (Nat.le_of_ble_eq_true rfl) (T_X10_allBelow (Nat.le_refl _) e2) rfl ?_
                          exact bd_iret (pc := 192) hq dX11_count_192 rfl
                        ·
                          rw [if_neg c11] at hq
                          refine st_tout (pc := 1) (tgt := 193) dX11_count_1 (by have e0 := lv_neT c0 (k := 0) (a := 0) (by decide); have e1 := lv_neT c1 (k := 1) (a := 1) (by decide); have e2 := lv_neT c2 (k := 2) (a := 2) (by decide); have e3 := lv_neT c3 (k := 3) (a := 3) (by decide); have e4 := lv_neT c4 (k := 4) (a := 4) (by decide); have e5 := lv_neT c5 (k := 5) (a := 5) (by decide); have e6 := lv_neT c6 (k := 6) (a := 6) (by decide); have e7 := lv_neT c7 (k := 7) (a := 7) (by decide); have e8 := lv_neT c8 (k := 8) (a := 8) (by decide); have e9 := lv_neT c9 (k := 9) (a := 9) (by decide); have e10 := lv_neT c10 (k := 10) (a := 10) (by decide); have e11 := lv_neT c11 (k := 11) (a := 11) (by decide); omega) (by decide) ?_
                          refine st_aload_n (pc := 193) dX11_count_193 rfl ?_
                          refine st_iconst (pc := 194) (v := (1 : Int32)) dX11_count_194 rfl ?_
                          obtain ⟨⟨hbq1, hkq1⟩, hq⟩ := mh_oi hq
                          obtain ⟨q1, e1, hq⟩ := mh_ob hq
                          refine st_invV (pc := 195) (ci := 11) (vs := [.int (1 : Int32)]) (rest := []) (st2 := [.int q1.1]) dX11_count_195 okX11_error (by decide) hkq1 hbq1 wd_314 wd_316 wp_0 pdX11_error rfl rfl rfl rfl (Nat.le_trans (by decide) hd) (Nat.le_of_ble_eq_true rfl) (T_X11_error (Nat.le_refl _) e1) rfl ?_
                          exact bd_iret (pc := 198) hq dX11_count_198 rfl
-- HoleWater.told(I)I
theorem dX11_told_0 : decode cX11_told 0 = .ok (.iload_n 1, 1) := by decide +kernel
theorem dX11_told_1 : decode cX11_told 1 = .ok (.iconst 1, 1) := by decide +kernel
theorem dX11_told_2 : decode cX11_told 2 = .ok (.bipush 6, 2) := by decide +kernel
theorem dX11_told_4 : decode cX11_told 4 = .ok (.invokestatic 62, 3) := by decide +kernel
theorem dX11_told_7 : decode cX11_told 7 = .ok (.ifCond .eq 12, 3) := by decide +kernel
theorem dX11_told_19 : decode cX11_told 19 = .ok (.aload_n 0, 1) := by decide +kernel
theorem dX11_told_20 : decode cX11_told 20 = .ok (.iconst 1, 1) := by decide +kernel
theorem dX11_told_21 : decode cX11_told 21 = .ok (.invokevirtual 66, 3) := by decide +kernel
theorem dX11_told_24 : decode cX11_told 24 = .ok (.ireturn, 1) := by decide +kernel
theorem dX11_told_10 : decode cX11_told 10 = .ok (.aload_n 0, 1) := by decide +kernel
theorem dX11_told_11 : decode cX11_told 11 = .ok (.getfield 42, 3) := by decide +kernel
theorem dX11_told_14 : decode cX11_told 14 = .ok (.iload_n 1, 1) := by decide +kernel
theorem dX11_told_15 : decode cX11_told 15 = .ok (.iaload, 1) := by decide +kernel
theorem dX11_told_16 : decode cX11_told 16 = .ok (.goto 8, 3) := by decide +kernel
def D_X11_told (N : Nat) (h : mh_H) (l0 : Nat) (l1 : Int32) : Option (Int32 × mh_H) :=
  (D_X11_within N h l1 (1 : Int32) (6 : Int32)).bind fun q1 =>
  if q1.1 = 0 then (kO q1.2 11 l0 <|
  (D_X11_error N q1.2 l0 (1 : Int32)).bind fun q2 =>
  some (q2.1, q2.2))
  else ((gR q1.2 11 l0 5).bind fun v2 =>
  (aI q1.2 v2 l1).bind fun v3 =>
  some (v3, q1.2))
set_option maxHeartbeats 4000000 in
set_option maxRecDepth 100000 in
theorem T_X11_told {P : mh_E → Prop} {N d : Nat} (hd : 3 ≤ d) {z : (Int32 × mh_H)} {h : mh_H} {l0 : Nat} {l1 : Int32} (hq : D_X11_told N h l0 l1 = some z) : mh_go P d mX11_told 0 [some (.ref l0), some (.int l1)] [] h (some (.int z.1)) z.2 := by
  unfold D_X11_told at hq
  refine st_iload_n (pc := 0) dX11_told_0 rfl ?_
  refine st_iconst (pc := 1) (v := (1 : Int32)) dX11_told_1 rfl ?_
  refine st_bipush (pc := 2) (v := (6 : Int32)) dX11_told_2 (by decide) ?_
  obtain ⟨q1, e1, hq⟩ := mh_ob hq
  refine st_invS (pc := 4) (Y := mX11_within) (vs := [.int l1, .int (1 : Int32), .int (6 : Int32)]) (rest := []) (st2 := [.int q1.1]) dX11_told_4 okX11_within wd_311 wd_312 pdX11_within rfl rfl rfl rfl (Nat.le_trans (by decide) hd) (Nat.le_of_ble_eq_true rfl) (T_X11_within (Nat.le_refl _) e1) rfl ?_
  refine bd_if_eq (pc := 7) (tgt := 19) hq dX11_told_7 (by decide) (fun _ hq => ?_) (fun _ hq => ?_)
  ·
    refine st_aload_n (pc := 19) dX11_told_19 rfl ?_
    refine st_iconst (pc := 20) (v := (1 : Int32)) dX11_told_20 rfl ?_
    obtain ⟨⟨hbq2, hkq2⟩, hq⟩ := mh_oi hq
    obtain ⟨q2, e2, hq⟩ := mh_ob hq
    refine st_invV (pc := 21) (ci := 11) (vs := [.int (1 : Int32)]) (rest := []) (st2 := [.int q2.1]) dX11_told_21 okX11_error (by decide) hkq2 hbq2 wd_314 wd_316 wp_0 pdX11_error rfl rfl rfl rfl (Nat.le_trans (by decide) hd) (Nat.le_of_ble_eq_true rfl) (T_X11_error (Nat.le_refl _) e2) rfl ?_
    exact bd_iret (pc := 24) hq dX11_told_24 rfl
  ·
    refine st_aload_n (pc := 10) dX11_told_10 rfl ?_
    refine bd_getr (pc := 11) hq dX11_told_11 fl_11_42_11 rfl (fun v2 hq => ?_)
    refine st_iload_n (pc := 14) dX11_told_14 rfl ?_
    refine bd_iald (pc := 15) hq dX11_told_15 (fun v3 hq => ?_)
    refine st_goto (pc := 16) (tgt := 24) dX11_told_16 (by decide) ?_
    exact bd_iret (pc := 24) hq dX11_told_24 rfl
-- HoleWaterModel.<init>()V
theorem dX12_init_0 : decode cX12_init 0 = .ok (.aload_n 0, 1) := by decide +kernel
theorem dX12_init_1 : decode cX12_init 1 = .ok (.invokespecial 3, 3) := by decide +kernel
theorem dX12_init_4 : decode cX12_init 4 = .ok (.aload_n 0, 1) := by decide +kernel
theorem dX12_init_5 : decode cX12_init 5 = .ok (.sipush 7794, 3) := by decide +kernel
theorem dX12_init_8 : decode cX12_init 8 = .ok (.newarray .int, 2) := by decide +kernel
theorem dX12_init_10 : decode cX12_init 10 = .ok (.putfield 9, 3) := by decide +kernel
theorem dX12_init_13 : decode cX12_init 13 = .ok (.aload_n 0, 1) := by decide +kernel
theorem dX12_init_14 : decode cX12_init 14 = .ok (.sipush 7794, 3) := by decide +kernel
theorem dX12_init_17 : decode cX12_init 17 = .ok (.newarray .int, 2) := by decide +kernel
theorem dX12_init_19 : decode cX12_init 19 = .ok (.putfield 13, 3) := by decide +kernel
theorem dX12_init_22 : decode cX12_init 22 = .ok (.aload_n 0, 1) := by decide +kernel
theorem dX12_init_23 : decode cX12_init 23 = .ok (.sipush 7794, 3) := by decide +kernel
theorem dX12_init_26 : decode cX12_init 26 = .ok (.newarray .int, 2) := by decide +kernel
theorem dX12_init_28 : decode cX12_init 28 = .ok (.putfield 16, 3) := by decide +kernel
theorem dX12_init_31 : decode cX12_init 31 = .ok (.aload_n 0, 1) := by decide +kernel
theorem dX12_init_32 : decode cX12_init 32 = .ok (.bipush 7, 2) := by decide +kernel
theorem dX12_init_34 : decode cX12_init 34 = .ok (.newarray .int, 2) := by decide +kernel
theorem dX12_init_36 : decode cX12_init 36 = .ok (.putfield 19, 3) := by decide +kernel
theorem dX12_init_39 : decode cX12_init 39 = .ok (.aload_n 0, 1) := by decide +kernel
theorem dX12_init_40 : decode cX12_init 40 = .ok (.bipush 16, 2) := by decide +kernel
theorem dX12_init_42 : decode cX12_init 42 = .ok (.newarray .int, 2) := by decide +kernel
theorem dX12_init_44 : decode cX12_init 44 = .ok (.putfield 22, 3) := by decide +kernel
theorem dX12_init_47 : decode cX12_init 47 = .ok (.aload_n 0, 1) := by decide +kernel
theorem dX12_init_48 : decode cX12_init 48 = .ok (.bipush 24, 2) := by decide +kernel
theorem dX12_init_50 : decode cX12_init 50 = .ok (.newarray .int, 2) := by decide +kernel
theorem dX12_init_52 : decode cX12_init 52 = .ok (.putfield 25, 3) := by decide +kernel
theorem dX12_init_55 : decode cX12_init 55 = .ok (.aload_n 0, 1) := by decide +kernel
theorem dX12_init_56 : decode cX12_init 56 = .ok (.bipush 64, 2) := by decide +kernel
theorem dX12_init_58 : decode cX12_init 58 = .ok (.newarray .int, 2) := by decide +kernel
theorem dX12_init_60 : decode cX12_init 60 = .ok (.putfield 28, 3) := by decide +kernel
theorem dX12_init_63 : decode cX12_init 63 = .ok (.aload_n 0, 1) := by decide +kernel
theorem dX12_init_64 : decode cX12_init 64 = .ok (.bipush 12, 2) := by decide +kernel
theorem dX12_init_66 : decode cX12_init 66 = .ok (.newarray .int, 2) := by decide +kernel
theorem dX12_init_68 : decode cX12_init 68 = .ok (.putfield 31, 3) := by decide +kernel
theorem dX12_init_71 : decode cX12_init 71 = .ok (.aload_n 0, 1) := by decide +kernel
theorem dX12_init_72 : decode cX12_init 72 = .ok (.iconst 4, 1) := by decide +kernel
theorem dX12_init_73 : decode cX12_init 73 = .ok (.newarray .int, 2) := by decide +kernel
theorem dX12_init_75 : decode cX12_init 75 = .ok (.putfield 34, 3) := by decide +kernel
theorem dX12_init_78 : decode cX12_init 78 = .ok (.aload_n 0, 1) := by decide +kernel
theorem dX12_init_79 : decode cX12_init 79 = .ok (.bipush 64, 2) := by decide +kernel
theorem dX12_init_81 : decode cX12_init 81 = .ok (.newarray .int, 2) := by decide +kernel
theorem dX12_init_83 : decode cX12_init 83 = .ok (.putfield 37, 3) := by decide +kernel
theorem dX12_init_86 : decode cX12_init 86 = .ok (.aload_n 0, 1) := by decide +kernel
theorem dX12_init_87 : decode cX12_init 87 = .ok (.iconst 5, 1) := by decide +kernel
theorem dX12_init_88 : decode cX12_init 88 = .ok (.newarray .int, 2) := by decide +kernel
theorem dX12_init_90 : decode cX12_init 90 = .ok (.putfield 40, 3) := by decide +kernel
theorem dX12_init_93 : decode cX12_init 93 = .ok (.aload_n 0, 1) := by decide +kernel
theorem dX12_init_94 : decode cX12_init 94 = .ok (.iconst 5, 1) := by decide +kernel
theorem dX12_init_95 : decode cX12_init 95 = .ok (.newarray .int, 2) := by decide +kernel
theorem dX12_init_97 : decode cX12_init 97 = .ok (.putfield 43, 3) := by decide +kernel
theorem dX12_init_100 : decode cX12_init 100 = .ok (.aload_n 0, 1) := by decide +kernel
theorem dX12_init_101 : decode cX12_init 101 = .ok (.bipush 32, 2) := by decide +kernel
theorem dX12_init_103 : decode cX12_init 103 = .ok (.newarray .int, 2) := by decide +kernel
theorem dX12_init_105 : decode cX12_init 105 = .ok (.putfield 46, 3) := by decide +kernel
theorem dX12_init_108 : decode cX12_init 108 = .ok (.aload_n 0, 1) := by decide +kernel
theorem dX12_init_109 : decode cX12_init 109 = .ok (.bipush 16, 2) := by decide +kernel
theorem dX12_init_111 : decode cX12_init 111 = .ok (.newarray .int, 2) := by decide +kernel
theorem dX12_init_113 : decode cX12_init 113 = .ok (.putfield 49, 3) := by decide +kernel
theorem dX12_init_116 : decode cX12_init 116 = .ok (.aload_n 0, 1) := by decide +kernel
theorem dX12_init_117 : decode cX12_init 117 = .ok (.bipush 30, 2) := by decide +kernel
theorem dX12_init_119 : decode cX12_init 119 = .ok (.newarray .int, 2) := by decide +kernel
theorem dX12_init_121 : decode cX12_init 121 = .ok (.putfield 52, 3) := by decide +kernel
theorem dX12_init_124 : decode cX12_init 124 = .ok (.aload_n 0, 1) := by decide +kernel
theorem dX12_init_125 : decode cX12_init 125 = .ok (.iconst 4, 1) := by decide +kernel
theorem dX12_init_126 : decode cX12_init 126 = .ok (.newarray .int, 2) := by decide +kernel
theorem dX12_init_128 : decode cX12_init 128 = .ok (.putfield 55, 3) := by decide +kernel
theorem dX12_init_131 : decode cX12_init 131 = .ok (.aload_n 0, 1) := by decide +kernel
theorem dX12_init_132 : decode cX12_init 132 = .ok (.iconst 4, 1) := by decide +kernel
theorem dX12_init_133 : decode cX12_init 133 = .ok (.newarray .int, 2) := by decide +kernel
theorem dX12_init_135 : decode cX12_init 135 = .ok (.putfield 58, 3) := by decide +kernel
theorem dX12_init_138 : decode cX12_init 138 = .ok (.aload_n 0, 1) := by decide +kernel
theorem dX12_init_139 : decode cX12_init 139 = .ok (.bipush 96, 2) := by decide +kernel
theorem dX12_init_141 : decode cX12_init 141 = .ok (.newarray .int, 2) := by decide +kernel
theorem dX12_init_143 : decode cX12_init 143 = .ok (.putfield 61, 3) := by decide +kernel
theorem dX12_init_146 : decode cX12_init 146 = .ok (.return_, 1) := by decide +kernel
def D_X12_init (N : Nat) (h : mh_H) (l0 : Nat) : Option mh_H :=
  (nA h 0 (7794 : Int32)).bind fun h1 =>
  (pR h1 12 l0 0 (mh_n h)).bind fun h2 =>
  (nA h2 0 (7794 : Int32)).bind fun h3 =>
  (pR h3 12 l0 1 (mh_n h2)).bind fun h4 =>
  (nA h4 0 (7794 : Int32)).bind fun h5 =>
  (pR h5 12 l0 2 (mh_n h4)).bind fun h6 =>
  (nA h6 0 (7 : Int32)).bind fun h7 =>
  (pR h7 12 l0 4 (mh_n h6)).bind fun h8 =>
  (nA h8 0 (16 : Int32)).bind fun h9 =>
  (pR h9 12 l0 5 (mh_n h8)).bind fun h10 =>
  (nA h10 0 (24 : Int32)).bind fun h11 =>
  (pR h11 12 l0 6 (mh_n h10)).bind fun h12 =>
  (nA h12 0 (64 : Int32)).bind fun h13 =>
  (pR h13 12 l0 7 (mh_n h12)).bind fun h14 =>
  (nA h14 0 (12 : Int32)).bind fun h15 =>
  (pR h15 12 l0 8 (mh_n h14)).bind fun h16 =>
  (nA h16 0 (4 : Int32)).bind fun h17 =>
  (pR h17 12 l0 15 (mh_n h16)).bind fun h18 =>
  (nA h18 0 (64 : Int32)).bind fun h19 =>
  (pR h19 12 l0 16 (mh_n h18)).bind fun h20 =>
  (nA h20 0 (5 : Int32)).bind fun h21 =>
  (pR h21 12 l0 17 (mh_n h20)).bind fun h22 =>
  (nA h22 0 (5 : Int32)).bind fun h23 =>
  (pR h23 12 l0 18 (mh_n h22)).bind fun h24 =>
  (nA h24 0 (32 : Int32)).bind fun h25 =>
  (pR h25 12 l0 19 (mh_n h24)).bind fun h26 =>
  (nA h26 0 (16 : Int32)).bind fun h27 =>
  (pR h27 12 l0 20 (mh_n h26)).bind fun h28 =>
  (nA h28 0 (30 : Int32)).bind fun h29 =>
  (pR h29 12 l0 21 (mh_n h28)).bind fun h30 =>
  (nA h30 0 (4 : Int32)).bind fun h31 =>
  (pR h31 12 l0 27 (mh_n h30)).bind fun h32 =>
  (nA h32 0 (4 : Int32)).bind fun h33 =>
  (pR h33 12 l0 28 (mh_n h32)).bind fun h34 =>
  (nA h34 0 (96 : Int32)).bind fun h35 =>
  (pR h35 12 l0 29 (mh_n h34)).bind fun h36 =>
  some h36
set_option maxHeartbeats 4000000 in
set_option maxRecDepth 100000 in
theorem T_X12_init {P : mh_E → Prop} {N d : Nat} (hd : 1 ≤ d) {z : mh_H} {h : mh_H} {l0 : Nat} (hq : D_X12_init N h l0 = some z) : mh_go P d mX12_init 0 [some (.ref l0)] [] h none z := by
  unfold D_X12_init at hq
  refine st_aload_n (pc := 0) dX12_init_0 rfl ?_
  refine st_obj (pc := 1) dX12_init_1 wd_1146 wd_oi wd_oc (Nat.le_trans (by decide) hd) (Nat.le_of_ble_eq_true rfl) ?_
  refine st_aload_n (pc := 4) dX12_init_4 rfl ?_
  refine st_sipush (pc := 5) (v := (7794 : Int32)) dX12_init_5 (by decide) ?_
  refine bd_newa (pc := 8) hq dX12_init_8 (fun h1 hq => ?_)
  refine bd_putr (pc := 10) hq dX12_init_10 fl_12_9_12 (Or.inr ⟨rfl, rfl⟩) rfl (Or.inr ⟨_, rfl⟩) (fun h2 hq => ?_)
  refine st_aload_n (pc := 13) dX12_init_13 rfl ?_
  refine st_sipush (pc := 14) (v := (7794 : Int32)) dX12_init_14 (by decide) ?_
  refine bd_newa (pc := 17) hq dX12_init_17 (fun h3 hq => ?_)
  refine bd_putr (pc := 19) hq dX12_init_19 fl_12_13_12 (Or.inr ⟨rfl, rfl⟩) rfl (Or.inr ⟨_, rfl⟩) (fun h4 hq => ?_)
  refine st_aload_n (pc := 22) dX12_init_22 rfl ?_
  refine st_sipush (pc := 23) (v := (7794 : Int32)) dX12_init_23 (by decide) ?_
  refine bd_newa (pc := 26) hq dX12_init_26 (fun h5 hq => ?_)
  refine bd_putr (pc := 28) hq dX12_init_28 fl_12_16_12 (Or.inr ⟨rfl, rfl⟩) rfl (Or.inr ⟨_, rfl⟩) (fun h6 hq => ?_)
  refine st_aload_n (pc := 31) dX12_init_31 rfl ?_
  refine st_bipush (pc := 32) (v := (7 : Int32)) dX12_init_32 (by decide) ?_
  refine bd_newa (pc := 34) hq dX12_init_34 (fun h7 hq => ?_)
  refine bd_putr (pc := 36) hq dX12_init_36 fl_12_19_12 (Or.inr ⟨rfl, rfl⟩) rfl (Or.inr ⟨_, rfl⟩) (fun h8 hq => ?_)
  refine st_aload_n (pc := 39) dX12_init_39 rfl ?_
  refine st_bipush (pc := 40) (v := (16 : Int32)) dX12_init_40 (by decide) ?_
  refine bd_newa (pc := 42) hq dX12_init_42 (fun h9 hq => ?_)
  refine bd_putr (pc := 44) hq dX12_init_44 fl_12_22_12 (Or.inr ⟨rfl, rfl⟩) rfl (Or.inr ⟨_, rfl⟩) (fun h10 hq => ?_)
  refine st_aload_n (pc := 47) dX12_init_47 rfl ?_
  refine st_bipush (pc := 48) (v := (24 : Int32)) dX12_init_48 (by decide) ?_
  refine bd_newa (pc := 50) hq dX12_init_50 (fun h11 hq => ?_)
  refine bd_putr (pc := 52) hq dX12_init_52 fl_12_25_12 (Or.inr ⟨rfl, rfl⟩) rfl (Or.inr ⟨_, rfl⟩) (fun h12 hq => ?_)
  refine st_aload_n (pc := 55) dX12_init_55 rfl ?_
  refine st_bipush (pc := 56) (v := (64 : Int32)) dX12_init_56 (by decide) ?_
  refine bd_newa (pc := 58) hq dX12_init_58 (fun h13 hq => ?_)
  refine bd_putr (pc := 60) hq dX12_init_60 fl_12_28_12 (Or.inr ⟨rfl, rfl⟩) rfl (Or.inr ⟨_, rfl⟩) (fun h14 hq => ?_)
  refine st_aload_n (pc := 63) dX12_init_63 rfl ?_
  refine st_bipush (pc := 64) (v := (12 : Int32)) dX12_init_64 (by decide) ?_
  refine bd_newa (pc := 66) hq dX12_init_66 (fun h15 hq => ?_)
  refine bd_putr (pc := 68) hq dX12_init_68 fl_12_31_12 (Or.inr ⟨rfl, rfl⟩) rfl (Or.inr ⟨_, rfl⟩) (fun h16 hq => ?_)
  refine st_aload_n (pc := 71) dX12_init_71 rfl ?_
  refine st_iconst (pc := 72) (v := (4 : Int32)) dX12_init_72 rfl ?_
  refine bd_newa (pc := 73) hq dX12_init_73 (fun h17 hq => ?_)
  refine bd_putr (pc := 75) hq dX12_init_75 fl_12_34_12 (Or.inr ⟨rfl, rfl⟩) rfl (Or.inr ⟨_, rfl⟩) (fun h18 hq => ?_)
  refine st_aload_n (pc := 78) dX12_init_78 rfl ?_
  refine st_bipush (pc := 79) (v := (64 : Int32)) dX12_init_79 (by decide) ?_
  refine bd_newa (pc := 81) hq dX12_init_81 (fun h19 hq => ?_)
  refine bd_putr (pc := 83) hq dX12_init_83 fl_12_37_12 (Or.inr ⟨rfl, rfl⟩) rfl (Or.inr ⟨_, rfl⟩) (fun h20 hq => ?_)
  refine st_aload_n (pc := 86) dX12_init_86 rfl ?_
  refine st_iconst (pc := 87) (v := (5 : Int32)) dX12_init_87 rfl ?_
  refine bd_newa (pc := 88) hq dX12_init_88 (fun h21 hq => ?_)
  refine bd_putr (pc := 90) hq dX12_init_90 fl_12_40_12 (Or.inr ⟨rfl, rfl⟩) rfl (Or.inr ⟨_, rfl⟩) (fun h22 hq => ?_)
  refine st_aload_n (pc := 93) dX12_init_93 rfl ?_
  refine st_iconst (pc := 94) (v := (5 : Int32)) dX12_init_94 rfl ?_
  refine bd_newa (pc := 95) hq dX12_init_95 (fun h23 hq => ?_)
  refine bd_putr (pc := 97) hq dX12_init_97 fl_12_43_12 (Or.inr ⟨rfl, rfl⟩) rfl (Or.inr ⟨_, rfl⟩) (fun h24 hq => ?_)
  refine st_aload_n (pc := 100) dX12_init_100 rfl ?_
  refine st_bipush (pc := 101) (v := (32 : Int32)) dX12_init_101 (by decide) ?_
  refine bd_newa (pc := 103) hq dX12_init_103 (fun h25 hq => ?_)
  refine bd_putr (pc := 105) hq dX12_init_105 fl_12_46_12 (Or.inr ⟨rfl, rfl⟩) rfl (Or.inr ⟨_, rfl⟩) (fun h26 hq => ?_)
  refine st_aload_n (pc := 108) dX12_init_108 rfl ?_
  refine st_bipush (pc := 109) (v := (16 : Int32)) dX12_init_109 (by decide) ?_
  refine bd_newa (pc := 111) hq dX12_init_111 (fun h27 hq => ?_)
  refine bd_putr (pc := 113) hq dX12_init_113 fl_12_49_12 (Or.inr ⟨rfl, rfl⟩) rfl (Or.inr ⟨_, rfl⟩) (fun h28 hq => ?_)
  refine st_aload_n (pc := 116) dX12_init_116 rfl ?_
  refine st_bipush (pc := 117) (v := (30 : Int32)) dX12_init_117 (by decide) ?_
  refine bd_newa (pc := 119) hq dX12_init_119 (fun h29 hq => ?_)
  refine bd_putr (pc := 121) hq dX12_init_121 fl_12_52_12 (Or.inr ⟨rfl, rfl⟩) rfl (Or.inr ⟨_, rfl⟩) (fun h30 hq => ?_)
  refine st_aload_n (pc := 124) dX12_init_124 rfl ?_
  refine st_iconst (pc := 125) (v := (4 : Int32)) dX12_init_125 rfl ?_
  refine bd_newa (pc := 126) hq dX12_init_126 (fun h31 hq => ?_)
  refine bd_putr (pc := 128) hq dX12_init_128 fl_12_55_12 (Or.inr ⟨rfl, rfl⟩) rfl (Or.inr ⟨_, rfl⟩) (fun h32 hq => ?_)
  refine st_aload_n (pc := 131) dX12_init_131 rfl ?_
  refine st_iconst (pc := 132) (v := (4 : Int32)) dX12_init_132 rfl ?_
  refine bd_newa (pc := 133) hq dX12_init_133 (fun h33 hq => ?_)
  refine bd_putr (pc := 135) hq dX12_init_135 fl_12_58_12 (Or.inr ⟨rfl, rfl⟩) rfl (Or.inr ⟨_, rfl⟩) (fun h34 hq => ?_)
  refine st_aload_n (pc := 138) dX12_init_138 rfl ?_
  refine st_bipush (pc := 139) (v := (96 : Int32)) dX12_init_139 (by decide) ?_
  refine bd_newa (pc := 141) hq dX12_init_141 (fun h35 hq => ?_)
  refine bd_putr (pc := 143) hq dX12_init_143 fl_12_61_12 (Or.inr ⟨rfl, rfl⟩) rfl (Or.inr ⟨_, rfl⟩) (fun h36 hq => ?_)
  exact bd_vret (pc := 146) hq dX12_init_146 rfl
-- HoleWaterModel.error(I)I
theorem dX12_error_0 : decode cX12_error 0 = .ok (.aload_n 0, 1) := by decide +kernel
theorem dX12_error_1 : decode cX12_error 1 = .ok (.getfield 19, 3) := by decide +kernel
theorem dX12_error_4 : decode cX12_error 4 = .ok (.iload_n 1, 1) := by decide +kernel
theorem dX12_error_5 : decode cX12_error 5 = .ok (.dup2, 1) := by decide +kernel
theorem dX12_error_6 : decode cX12_error 6 = .ok (.iaload, 1) := by decide +kernel
theorem dX12_error_7 : decode cX12_error 7 = .ok (.iconst 1, 1) := by decide +kernel
theorem dX12_error_8 : decode cX12_error 8 = .ok (.iadd, 1) := by decide +kernel
theorem dX12_error_9 : decode cX12_error 9 = .ok (.iastore, 1) := by decide +kernel
theorem dX12_error_10 : decode cX12_error 10 = .ok (.ldc 64, 2) := by decide +kernel
theorem dX12_error_12 : decode cX12_error 12 = .ok (.iload_n 1, 1) := by decide +kernel
theorem dX12_error_13 : decode cX12_error 13 = .ok (.isub, 1) := by decide +kernel
theorem dX12_error_14 : decode cX12_error 14 = .ok (.ireturn, 1) := by decide +kernel
def D_X12_error (N : Nat) (h : mh_H) (l0 : Nat) (l1 : Int32) : Option (Int32 × mh_H) :=
  (gR h 12 l0 4).bind fun v1 =>
  (aI h v1 l1).bind fun v2 =>
  (uI h v1 l1 (v2 + (1 : Int32))).bind fun h3 =>
  some ((-1000000 : Int32) - l1, h3)
set_option maxHeartbeats 4000000 in
set_option maxRecDepth 100000 in
theorem T_X12_error {P : mh_E → Prop} {N d : Nat} (hd : 1 ≤ d) {z : (Int32 × mh_H)} {h : mh_H} {l0 : Nat} {l1 : Int32} (hq : D_X12_error N h l0 l1 = some z) : mh_go P d mX12_error 0 [some (.ref l0), some (.int l1)] [] h (some (.int z.1)) z.2 := by
  unfold D_X12_error at hq
  refine st_aload_n (pc := 0) dX12_error_0 rfl ?_
  refine bd_getr (pc := 1) hq dX12_error_1 fl_12_19_12 rfl (fun v1 hq => ?_)
  refine st_iload_n (pc := 4) dX12_error_4 rfl ?_
  refine st_dup2 (pc := 5) dX12_error_5 rfl rfl ?_
  refine bd_iald (pc := 6) hq dX12_error_6 (fun v2 hq => ?_)
  refine st_iconst (pc := 7) (v := (1 : Int32)) dX12_error_7 rfl ?_
  refine st_iadd (pc := 8) dX12_error_8 ?_
  refine bd_iast (pc := 9) hq dX12_error_9 (fun h3 hq => ?_)
  refine st_ldc (pc := 10) (v := (-1000000 : Int32)) dX12_error_10 wd_1251 ?_
  refine st_iload_n (pc := 12) dX12_error_12 rfl ?_
  refine st_isub (pc := 13) dX12_error_13 ?_
  exact bd_iret (pc := 14) hq dX12_error_14 rfl
-- HoleWaterModel.in(JJJ)Z
theorem dX12_in_0 : decode cX12_in 0 = .ok (.lload_n 0, 1) := by decide +kernel
theorem dX12_in_1 : decode cX12_in 1 = .ok (.lload_n 2, 1) := by decide +kernel
theorem dX12_in_2 : decode cX12_in 2 = .ok (.lcmp, 1) := by decide +kernel
theorem dX12_in_3 : decode cX12_in 3 = .ok (.ifCond .lt 14, 3) := by decide +kernel
theorem dX12_in_17 : decode cX12_in 17 = .ok (.iconst 0, 1) := by decide +kernel
theorem dX12_in_18 : decode cX12_in 18 = .ok (.ireturn, 1) := by decide +kernel
theorem dX12_in_6 : decode cX12_in 6 = .ok (.lload_n 0, 1) := by decide +kernel
theorem dX12_in_7 : decode cX12_in 7 = .ok (.lload 4, 2) := by decide +kernel
theorem dX12_in_9 : decode cX12_in 9 = .ok (.lcmp, 1) := by decide +kernel
theorem dX12_in_10 : decode cX12_in 10 = .ok (.ifCond .gt 7, 3) := by decide +kernel
theorem dX12_in_13 : decode cX12_in 13 = .ok (.iconst 1, 1) := by decide +kernel
theorem dX12_in_14 : decode cX12_in 14 = .ok (.goto 4, 3) := by decide +kernel
def D_X12_in (N : Nat) (h : mh_H) (l0 : Int64) (l2 : Int64) (l4 : Int64) : Option (Int32 × mh_H) :=
  if (lg_cmp l0 l2) < 0 then (zB (0 : Int32) h)
  else (if 0 < (lg_cmp l0 l4) then (zB (0 : Int32) h)
  else (zB (1 : Int32) h))
set_option maxHeartbeats 4000000 in
set_option maxRecDepth 100000 in
theorem T_X12_in {P : mh_E → Prop} {N d : Nat} (hd : 1 ≤ d) {z : (Int32 × mh_H)} {h : mh_H} {l0 : Int64} {l2 : Int64} {l4 : Int64} (hq : D_X12_in N h l0 l2 l4 = some z) : mh_go P d mX12_in 0 [some (.long l0), none, some (.long l2), none, some (.long l4), none] [] h (some (.int z.1)) z.2 := by
  unfold D_X12_in at hq
  refine st_lload_n (pc := 0) dX12_in_0 rfl ?_
  refine st_lload_n (pc := 1) dX12_in_1 rfl ?_
  refine st_lcmp (pc := 2) dX12_in_2 ?_
  refine bd_if_lt (pc := 3) (tgt := 17) hq dX12_in_3 (by decide) (fun _ hq => ?_) (fun _ hq => ?_)
  ·
    refine st_iconst (pc := 17) (v := (0 : Int32)) dX12_in_17 rfl ?_
    exact bd_zret (pc := 18) hq dX12_in_18 rfl
  ·
    refine st_lload_n (pc := 6) dX12_in_6 rfl ?_
    refine st_lload (pc := 7) dX12_in_7 rfl ?_
    refine st_lcmp (pc := 9) dX12_in_9 ?_
    refine bd_if_gt (pc := 10) (tgt := 17) hq dX12_in_10 (by decide) (fun _ hq => ?_) (fun _ hq => ?_)
    ·
      refine st_iconst (pc := 17) (v := (0 : Int32)) dX12_in_17 rfl ?_
      exact bd_zret (pc := 18) hq dX12_in_18 rfl
    ·
      refine st_iconst (pc := 13) (v := (1 : Int32)) dX12_in_13 rfl ?_
      refine st_goto (pc := 14) (tgt := 18) dX12_in_14 (by decide) ?_
      exact bd_zret (pc := 18) hq dX12_in_18 rfl
-- HoleWaterModel.isJoint(I)Z
theorem dX12_isJoint_0 : decode cX12_isJoint 0 = .ok (.iload_n 1, 1) := by decide +kernel
theorem dX12_isJoint_1 : decode cX12_isJoint 1 = .ok (.i2l, 1) := by decide +kernel
theorem dX12_isJoint_2 : decode cX12_isJoint 2 = .ok (.lconst 0, 1) := by decide +kernel
theorem dX12_isJoint_3 : decode cX12_isJoint 3 = .ok (.aload_n 0, 1) := by decide +kernel
theorem dX12_isJoint_4 : decode cX12_isJoint 4 = .ok (.getfield 9, 3) := by decide +kernel
theorem dX12_isJoint_7 : decode cX12_isJoint 7 = .ok (.iconst 1, 1) := by decide +kernel
theorem dX12_isJoint_8 : decode cX12_isJoint 8 = .ok (.iaload, 1) := by decide +kernel
theorem dX12_isJoint_9 : decode cX12_isJoint 9 = .ok (.iconst 1, 1) := by decide +kernel
theorem dX12_isJoint_10 : decode cX12_isJoint 10 = .ok (.isub, 1) := by decide +kernel
theorem dX12_isJoint_11 : decode cX12_isJoint 11 = .ok (.i2l, 1) := by decide +kernel
theorem dX12_isJoint_12 : decode cX12_isJoint 12 = .ok (.invokestatic 65, 3) := by decide +kernel
theorem dX12_isJoint_15 : decode cX12_isJoint 15 = .ok (.ireturn, 1) := by decide +kernel
def D_X12_isJoint (N : Nat) (h : mh_H) (l0 : Nat) (l1 : Int32) : Option (Int32 × mh_H) :=
  (gR h 12 l0 0).bind fun v1 =>
  (aI h v1 (1 : Int32)).bind fun v2 =>
  (D_X12_in N h l1.toInt64 (0 : Int64) ((v2 - (1 : Int32)).toInt64)).bind fun q3 =>
  zB q3.1 q3.2
set_option maxHeartbeats 4000000 in
set_option maxRecDepth 100000 in
theorem T_X12_isJoint {P : mh_E → Prop} {N d : Nat} (hd : 2 ≤ d) {z : (Int32 × mh_H)} {h : mh_H} {l0 : Nat} {l1 : Int32} (hq : D_X12_isJoint N h l0 l1 = some z) : mh_go P d mX12_isJoint 0 [some (.ref l0), some (.int l1)] [] h (some (.int z.1)) z.2 := by
  unfold D_X12_isJoint at hq
  refine st_iload_n (pc := 0) dX12_isJoint_0 rfl ?_
  refine st_i2l (pc := 1) dX12_isJoint_1 ?_
  refine st_lconst (pc := 2) (v := 0) dX12_isJoint_2 rfl ?_
  refine st_aload_n (pc := 3) dX12_isJoint_3 rfl ?_
  refine bd_getr (pc := 4) hq dX12_isJoint_4 fl_12_9_12 rfl (fun v1 hq => ?_)
  refine st_iconst (pc := 7) (v := (1 : Int32)) dX12_isJoint_7 rfl ?_
  refine bd_iald (pc := 8) hq dX12_isJoint_8 (fun v2 hq => ?_)
  refine st_iconst (pc := 9) (v := (1 : Int32)) dX12_isJoint_9 rfl ?_
  refine st_isub (pc := 10) dX12_isJoint_10 ?_
  refine st_i2l (pc := 11) dX12_isJoint_11 ?_
  obtain ⟨q3, e3, hq⟩ := mh_ob hq
  refine st_invS (pc := 12) (Y := mX12_in) (vs := [.long l1.toInt64, .long (0 : Int64), .long ((v2 - (1 : Int32)).toInt64)]) (rest := []) (st2 := [.int q3.1]) dX12_isJoint_12 okX12_in wd_1243 wd_1244 pdX12_in rfl rfl rfl rfl (Nat.le_trans (by decide) hd) (Nat.le_of_ble_eq_true rfl) (T_X12_in (Nat.le_refl _) e3) rfl ?_
  exact bd_zret (pc := 15) hq dX12_isJoint_15 rfl
-- HoleWaterModel.isWay(I)Z
theorem dX12_isWay_0 : decode cX12_isWay 0 = .ok (.iload_n 1, 1) := by decide +kernel
theorem dX12_isWay_1 : decode cX12_isWay 1 = .ok (.i2l, 1) := by decide +kernel
theorem dX12_isWay_2 : decode cX12_isWay 2 = .ok (.lconst 0, 1) := by decide +kernel
theorem dX12_isWay_3 : decode cX12_isWay 3 = .ok (.aload_n 0, 1) := by decide +kernel
theorem dX12_isWay_4 : decode cX12_isWay 4 = .ok (.getfield 9, 3) := by decide +kernel
theorem dX12_isWay_7 : decode cX12_isWay 7 = .ok (.iconst 2, 1) := by decide +kernel
theorem dX12_isWay_8 : decode cX12_isWay 8 = .ok (.iaload, 1) := by decide +kernel
theorem dX12_isWay_9 : decode cX12_isWay 9 = .ok (.iconst 1, 1) := by decide +kernel
theorem dX12_isWay_10 : decode cX12_isWay 10 = .ok (.isub, 1) := by decide +kernel
theorem dX12_isWay_11 : decode cX12_isWay 11 = .ok (.i2l, 1) := by decide +kernel
theorem dX12_isWay_12 : decode cX12_isWay 12 = .ok (.invokestatic 65, 3) := by decide +kernel
theorem dX12_isWay_15 : decode cX12_isWay 15 = .ok (.ireturn, 1) := by decide +kernel
def D_X12_isWay (N : Nat) (h : mh_H) (l0 : Nat) (l1 : Int32) : Option (Int32 × mh_H) :=
  (gR h 12 l0 0).bind fun v1 =>
  (aI h v1 (2 : Int32)).bind fun v2 =>
  (D_X12_in N h l1.toInt64 (0 : Int64) ((v2 - (1 : Int32)).toInt64)).bind fun q3 =>
  zB q3.1 q3.2
set_option maxHeartbeats 4000000 in
set_option maxRecDepth 100000 in
theorem T_X12_isWay {P : mh_E → Prop} {N d : Nat} (hd : 2 ≤ d) {z : (Int32 × mh_H)} {h : mh_H} {l0 : Nat} {l1 : Int32} (hq : D_X12_isWay N h l0 l1 = some z) : mh_go P d mX12_isWay 0 [some (.ref l0), some (.int l1)] [] h (some (.int z.1)) z.2 := by
  unfold D_X12_isWay at hq
  refine st_iload_n (pc := 0) dX12_isWay_0 rfl ?_
  refine st_i2l (pc := 1) dX12_isWay_1 ?_
  refine st_lconst (pc := 2) (v := 0) dX12_isWay_2 rfl ?_
  refine st_aload_n (pc := 3) dX12_isWay_3 rfl ?_
  refine bd_getr (pc := 4) hq dX12_isWay_4 fl_12_9_12 rfl (fun v1 hq => ?_)
  refine st_iconst (pc := 7) (v := (2 : Int32)) dX12_isWay_7 rfl ?_
  refine bd_iald (pc := 8) hq dX12_isWay_8 (fun v2 hq => ?_)
  refine st_iconst (pc := 9) (v := (1 : Int32)) dX12_isWay_9 rfl ?_
  refine st_isub (pc := 10) dX12_isWay_10 ?_
  refine st_i2l (pc := 11) dX12_isWay_11 ?_
  obtain ⟨q3, e3, hq⟩ := mh_ob hq
  refine st_invS (pc := 12) (Y := mX12_in) (vs := [.long l1.toInt64, .long (0 : Int64), .long ((v2 - (1 : Int32)).toInt64)]) (rest := []) (st2 := [.int q3.1]) dX12_isWay_12 okX12_in wd_1243 wd_1244 pdX12_in rfl rfl rfl rfl (Nat.le_trans (by decide) hd) (Nat.le_of_ble_eq_true rfl) (T_X12_in (Nat.le_refl _) e3) rfl ?_
  exact bd_zret (pc := 15) hq dX12_isWay_15 rfl
-- HoleWaterModel.isColour(I)Z
theorem dX12_isColour_0 : decode cX12_isColour 0 = .ok (.iload_n 0, 1) := by decide +kernel
theorem dX12_isColour_1 : decode cX12_isColour 1 = .ok (.i2l, 1) := by decide +kernel
theorem dX12_isColour_2 : decode cX12_isColour 2 = .ok (.lconst 0, 1) := by decide +kernel
theorem dX12_isColour_3 : decode cX12_isColour 3 = .ok (.ldc2_w 69, 3) := by decide +kernel
theorem dX12_isColour_6 : decode cX12_isColour 6 = .ok (.invokestatic 65, 3) := by decide +kernel
theorem dX12_isColour_9 : decode cX12_isColour 9 = .ok (.ireturn, 1) := by decide +kernel
def D_X12_isColour (N : Nat) (h : mh_H) (l0 : Int32) : Option (Int32 × mh_H) :=
  (D_X12_in N h l0.toInt64 (0 : Int64) (3 : Int64)).bind fun q1 =>
  zB q1.1 q1.2
set_option maxHeartbeats 4000000 in
set_option maxRecDepth 100000 in
theorem T_X12_isColour {P : mh_E → Prop} {N d : Nat} (hd : 2 ≤ d) {z : (Int32 × mh_H)} {h : mh_H} {l0 : Int32} (hq : D_X12_isColour N h l0 = some z) : mh_go P d mX12_isColour 0 [some (.int l0)] [] h (some (.int z.1)) z.2 := by
  unfold D_X12_isColour at hq
  refine st_iload_n (pc := 0) dX12_isColour_0 rfl ?_
  refine st_i2l (pc := 1) dX12_isColour_1 ?_
  refine st_lconst (pc := 2) (v := 0) dX12_isColour_2 rfl ?_
  refine st_ldc2 (pc := 3) (v := (3 : Int64)) dX12_isColour_3 wd_1242 ?_
  obtain ⟨q1, e1, hq⟩ := mh_ob hq
  refine st_invS (pc := 6) (Y := mX12_in) (vs := [.long l0.toInt64, .long (0 : Int64), .long (3 : Int64)]) (rest := []) (st2 := [.int q1.1]) dX12_isColour_6 okX12_in wd_1243 wd_1244 pdX12_in rfl rfl rfl rfl (Nat.le_trans (by decide) hd) (Nat.le_of_ble_eq_true rfl) (T_X12_in (Nat.le_refl _) e1) rfl ?_
  exact bd_zret (pc := 9) hq dX12_isColour_9 rfl
-- HoleWaterModel.joint(I)I
theorem dX12_joint_0 : decode cX12_joint 0 = .ok (.bipush 44, 2) := by decide +kernel
theorem dX12_joint_2 : decode cX12_joint 2 = .ok (.bipush 11, 2) := by decide +kernel
theorem dX12_joint_4 : decode cX12_joint 4 = .ok (.iload_n 0, 1) := by decide +kernel
theorem dX12_joint_5 : decode cX12_joint 5 = .ok (.imul, 1) := by decide +kernel
theorem dX12_joint_6 : decode cX12_joint 6 = .ok (.iadd, 1) := by decide +kernel
theorem dX12_joint_7 : decode cX12_joint 7 = .ok (.ireturn, 1) := by decide +kernel
def D_X12_joint (N : Nat) (h : mh_H) (l0 : Int32) : Option (Int32 × mh_H) :=
  some ((44 : Int32) + ((11 : Int32) * l0), h)
set_option maxHeartbeats 4000000 in
set_option maxRecDepth 100000 in
theorem T_X12_joint {P : mh_E → Prop} {N d : Nat} (hd : 1 ≤ d) {z : (Int32 × mh_H)} {h : mh_H} {l0 : Int32} (hq : D_X12_joint N h l0 = some z) : mh_go P d mX12_joint 0 [some (.int l0)] [] h (some (.int z.1)) z.2 := by
  unfold D_X12_joint at hq
  refine st_bipush (pc := 0) (v := (44 : Int32)) dX12_joint_0 (by decide) ?_
  refine st_bipush (pc := 2) (v := (11 : Int32)) dX12_joint_2 (by decide) ?_
  refine st_iload_n (pc := 4) dX12_joint_4 rfl ?_
  refine st_imul (pc := 5) dX12_joint_5 ?_
  refine st_iadd (pc := 6) dX12_joint_6 ?_
  exact bd_iret (pc := 7) hq dX12_joint_7 rfl
-- HoleWaterModel.way(I)I
theorem dX12_way_0 : decode cX12_way 0 = .ok (.sipush 220, 3) := by decide +kernel
theorem dX12_way_3 : decode cX12_way 3 = .ok (.sipush 215, 3) := by decide +kernel
theorem dX12_way_6 : decode cX12_way 6 = .ok (.iload_n 0, 1) := by decide +kernel
theorem dX12_way_7 : decode cX12_way 7 = .ok (.imul, 1) := by decide +kernel
theorem dX12_way_8 : decode cX12_way 8 = .ok (.iadd, 1) := by decide +kernel
theorem dX12_way_9 : decode cX12_way 9 = .ok (.ireturn, 1) := by decide +kernel
def D_X12_way (N : Nat) (h : mh_H) (l0 : Int32) : Option (Int32 × mh_H) :=
  some ((220 : Int32) + ((215 : Int32) * l0), h)
set_option maxHeartbeats 4000000 in
set_option maxRecDepth 100000 in
theorem T_X12_way {P : mh_E → Prop} {N d : Nat} (hd : 1 ≤ d) {z : (Int32 × mh_H)} {h : mh_H} {l0 : Int32} (hq : D_X12_way N h l0 = some z) : mh_go P d mX12_way 0 [some (.int l0)] [] h (some (.int z.1)) z.2 := by
  unfold D_X12_way at hq
  refine st_sipush (pc := 0) (v := (220 : Int32)) dX12_way_0 (by decide) ?_
  refine st_sipush (pc := 3) (v := (215 : Int32)) dX12_way_3 (by decide) ?_
  refine st_iload_n (pc := 6) dX12_way_6 rfl ?_
  refine st_imul (pc := 7) dX12_way_7 ?_
  refine st_iadd (pc := 8) dX12_way_8 ?_
  exact bd_iret (pc := 9) hq dX12_way_9 rfl
-- HoleWaterModel.sort(I)I
theorem dX12_sort_0 : decode cX12_sort 0 = .ok (.aload_n 0, 1) := by decide +kernel
theorem dX12_sort_1 : decode cX12_sort 1 = .ok (.getfield 9, 3) := by decide +kernel
theorem dX12_sort_4 : decode cX12_sort 4 = .ok (.iload_n 1, 1) := by decide +kernel
theorem dX12_sort_5 : decode cX12_sort 5 = .ok (.invokestatic 71, 3) := by decide +kernel
theorem dX12_sort_8 : decode cX12_sort 8 = .ok (.iaload, 1) := by decide +kernel
theorem dX12_sort_9 : decode cX12_sort 9 = .ok (.ireturn, 1) := by decide +kernel
def D_X12_sort (N : Nat) (h : mh_H) (l0 : Nat) (l1 : Int32) : Option (Int32 × mh_H) :=
  (gR h 12 l0 0).bind fun v1 =>
  (D_X12_joint N h l1).bind fun q2 =>
  (aI q2.2 v1 q2.1).bind fun v3 =>
  some (v3, q2.2)
set_option maxHeartbeats 4000000 in
set_option maxRecDepth 100000 in
theorem T_X12_sort {P : mh_E → Prop} {N d : Nat} (hd : 2 ≤ d) {z : (Int32 × mh_H)} {h : mh_H} {l0 : Nat} {l1 : Int32} (hq : D_X12_sort N h l0 l1 = some z) : mh_go P d mX12_sort 0 [some (.ref l0), some (.int l1)] [] h (some (.int z.1)) z.2 := by
  unfold D_X12_sort at hq
  refine st_aload_n (pc := 0) dX12_sort_0 rfl ?_
  refine bd_getr (pc := 1) hq dX12_sort_1 fl_12_9_12 rfl (fun v1 hq => ?_)
  refine st_iload_n (pc := 4) dX12_sort_4 rfl ?_
  obtain ⟨q2, e2, hq⟩ := mh_ob hq
  refine st_invS (pc := 5) (Y := mX12_joint) (vs := [.int l1]) (rest := [.ref v1]) (st2 := [.int q2.1, .ref v1]) dX12_sort_5 okX12_joint wd_1252 wd_1253 pdX12_joint rfl rfl rfl rfl (Nat.le_trans (by decide) hd) (Nat.le_of_ble_eq_true rfl) (T_X12_joint (Nat.le_refl _) e2) rfl ?_
  refine bd_iald (pc := 8) hq dX12_sort_8 (fun v3 hq => ?_)
  exact bd_iret (pc := 9) hq dX12_sort_9 rfl
-- HoleWaterModel.isHole(I)Z
theorem dX12_isHole_0 : decode cX12_isHole 0 = .ok (.aload_n 0, 1) := by decide +kernel
theorem dX12_isHole_1 : decode cX12_isHole 1 = .ok (.iload_n 1, 1) := by decide +kernel
theorem dX12_isHole_2 : decode cX12_isHole 2 = .ok (.invokevirtual 75, 3) := by decide +kernel
theorem dX12_isHole_5 : decode cX12_isHole 5 = .ok (.ifCond .ne 7, 3) := by decide +kernel
theorem dX12_isHole_8 : decode cX12_isHole 8 = .ok (.iconst 1, 1) := by decide +kernel
theorem dX12_isHole_9 : decode cX12_isHole 9 = .ok (.goto 4, 3) := by decide +kernel
theorem dX12_isHole_13 : decode cX12_isHole 13 = .ok (.ireturn, 1) := by decide +kernel
theorem dX12_isHole_12 : decode cX12_isHole 12 = .ok (.iconst 0, 1) := by decide +kernel
def D_X12_isHole (N : Nat) (h : mh_H) (l0 : Nat) (l1 : Int32) : Option (Int32 × mh_H) :=
  kO h 12 l0 <|
  (D_X12_sort N h l0 l1).bind fun q1 =>
  if q1.1 = 0 then (zB (1 : Int32) q1.2)
  else (zB (0 : Int32) q1.2)
set_option maxHeartbeats 4000000 in
set_option maxRecDepth 100000 in
theorem T_X12_isHole {P : mh_E → Prop} {N d : Nat} (hd : 3 ≤ d) {z : (Int32 × mh_H)} {h : mh_H} {l0 : Nat} {l1 : Int32} (hq : D_X12_isHole N h l0 l1 = some z) : mh_go P d mX12_isHole 0 [some (.ref l0), some (.int l1)] [] h (some (.int z.1)) z.2 := by
  unfold D_X12_isHole at hq
  refine st_aload_n (pc := 0) dX12_isHole_0 rfl ?_
  refine st_iload_n (pc := 1) dX12_isHole_1 rfl ?_
  obtain ⟨⟨hbq1, hkq1⟩, hq⟩ := mh_oi hq
  obtain ⟨q1, e1, hq⟩ := mh_ob hq
  refine st_invV (pc := 2) (ci := 12) (vs := [.int l1]) (rest := []) (st2 := [.int q1.1]) dX12_isHole_2 okX12_sort (by decide) hkq1 hbq1 wd_1274 wd_1276 wp_37 pdX12_sort rfl rfl rfl rfl (Nat.le_trans (by decide) hd) (Nat.le_of_ble_eq_true rfl) (T_X12_sort (Nat.le_refl _) e1) rfl ?_
  refine bd_if_ne (pc := 5) (tgt := 12) hq dX12_isHole_5 (by decide) (fun _ hq => ?_) (fun _ hq => ?_)
  ·
    refine st_iconst (pc := 8) (v := (1 : Int32)) dX12_isHole_8 rfl ?_
    refine st_goto (pc := 9) (tgt := 13) dX12_isHole_9 (by decide) ?_
    exact bd_zret (pc := 13) hq dX12_isHole_13 rfl
  ·
    refine st_iconst (pc := 12) (v := (0 : Int32)) dX12_isHole_12 rfl ?_
    exact bd_zret (pc := 13) hq dX12_isHole_13 rfl
-- HoleWaterModel.isSpring(I)Z
theorem dX12_isSpring_0 : decode cX12_isSpring 0 = .ok (.aload_n 0, 1) := by decide +kernel
theorem dX12_isSpring_1 : decode cX12_isSpring 1 = .ok (.iload_n 1, 1) := by decide +kernel
theorem dX12_isSpring_2 : decode cX12_isSpring 2 = .ok (.invokevirtual 75, 3) := by decide +kernel
theorem dX12_isSpring_5 : decode cX12_isSpring 5 = .ok (.iconst 2, 1) := by decide +kernel
theorem dX12_isSpring_6 : decode cX12_isSpring 6 = .ok (.if_icmp .ne 7, 3) := by decide +kernel
theorem dX12_isSpring_9 : decode cX12_isSpring 9 = .ok (.iconst 1, 1) := by decide +kernel
theorem dX12_isSpring_10 : decode cX12_isSpring 10 = .ok (.goto 4, 3) := by decide +kernel
theorem dX12_isSpring_14 : decode cX12_isSpring 14 = .ok (.ireturn, 1) := by decide +kernel
theorem dX12_isSpring_13 : decode cX12_isSpring 13 = .ok (.iconst 0, 1) := by decide +kernel
def D_X12_isSpring (N : Nat) (h : mh_H) (l0 : Nat) (l1 : Int32) : Option (Int32 × mh_H) :=
  kO h 12 l0 <|
  (D_X12_sort N h l0 l1).bind fun q1 =>
  if q1.1 = (2 : Int32) then (zB (1 : Int32) q1.2)
  else (zB (0 : Int32) q1.2)
set_option maxHeartbeats 4000000 in
set_option maxRecDepth 100000 in
theorem T_X12_isSpring {P : mh_E → Prop} {N d : Nat} (hd : 3 ≤ d) {z : (Int32 × mh_H)} {h : mh_H} {l0 : Nat} {l1 : Int32} (hq : D_X12_isSpring N h l0 l1 = some z) : mh_go P d mX12_isSpring 0 [some (.ref l0), some (.int l1)] [] h (some (.int z.1)) z.2 := by
  unfold D_X12_isSpring at hq
  refine st_aload_n (pc := 0) dX12_isSpring_0 rfl ?_
  refine st_iload_n (pc := 1) dX12_isSpring_1 rfl ?_
  obtain ⟨⟨hbq1, hkq1⟩, hq⟩ := mh_oi hq
  obtain ⟨q1, e1, hq⟩ := mh_ob hq
  refine st_invV (pc := 2) (ci := 12) (vs := [.int l1]) (rest := []) (st2 := [.int q1.1]) dX12_isSpring_2 okX12_sort (by decide) hkq1 hbq1 wd_1274 wd_1276 wp_37 pdX12_sort rfl rfl rfl rfl (Nat.le_trans (by decide) hd) (Nat.le_of_ble_eq_true rfl) (T_X12_sort (Nat.le_refl _) e1) rfl ?_
  refine st_iconst (pc := 5) (v := (2 : Int32)) dX12_isSpring_5 rfl ?_
  refine bd_icmp_ne (pc := 6) (tgt := 13) hq dX12_isSpring_6 (by decide) (fun _ hq => ?_) (fun _ hq => ?_)
  ·
    refine st_iconst (pc := 9) (v := (1 : Int32)) dX12_isSpring_9 rfl ?_
    refine st_goto (pc := 10) (tgt := 14) dX12_isSpring_10 (by decide) ?_
    exact bd_zret (pc := 14) hq dX12_isSpring_14 rfl
  ·
    refine st_iconst (pc := 13) (v := (0 : Int32)) dX12_isSpring_13 rfl ?_
    exact bd_zret (pc := 14) hq dX12_isSpring_14 rfl
-- HoleWaterModel.isEnd(I)Z
theorem dX12_isEnd_0 : decode cX12_isEnd 0 = .ok (.aload_n 0, 1) := by decide +kernel
theorem dX12_isEnd_1 : decode cX12_isEnd 1 = .ok (.iload_n 1, 1) := by decide +kernel
theorem dX12_isEnd_2 : decode cX12_isEnd 2 = .ok (.invokevirtual 75, 3) := by decide +kernel
theorem dX12_isEnd_5 : decode cX12_isEnd 5 = .ok (.iconst 2, 1) := by decide +kernel
theorem dX12_isEnd_6 : decode cX12_isEnd 6 = .ok (.if_icmp .lt 7, 3) := by decide +kernel
theorem dX12_isEnd_13 : decode cX12_isEnd 13 = .ok (.iconst 0, 1) := by decide +kernel
theorem dX12_isEnd_14 : decode cX12_isEnd 14 = .ok (.ireturn, 1) := by decide +kernel
theorem dX12_isEnd_9 : decode cX12_isEnd 9 = .ok (.iconst 1, 1) := by decide +kernel
theorem dX12_isEnd_10 : decode cX12_isEnd 10 = .ok (.goto 4, 3) := by decide +kernel
def D_X12_isEnd (N : Nat) (h : mh_H) (l0 : Nat) (l1 : Int32) : Option (Int32 × mh_H) :=
  kO h 12 l0 <|
  (D_X12_sort N h l0 l1).bind fun q1 =>
  if q1.1 < (2 : Int32) then (zB (0 : Int32) q1.2)
  else (zB (1 : Int32) q1.2)
set_option maxHeartbeats 4000000 in
set_option maxRecDepth 100000 in
theorem T_X12_isEnd {P : mh_E → Prop} {N d : Nat} (hd : 3 ≤ d) {z : (Int32 × mh_H)} {h : mh_H} {l0 : Nat} {l1 : Int32} (hq : D_X12_isEnd N h l0 l1 = some z) : mh_go P d mX12_isEnd 0 [some (.ref l0), some (.int l1)] [] h (some (.int z.1)) z.2 := by
  unfold D_X12_isEnd at hq
  refine st_aload_n (pc := 0) dX12_isEnd_0 rfl ?_
  refine st_iload_n (pc := 1) dX12_isEnd_1 rfl ?_
  obtain ⟨⟨hbq1, hkq1⟩, hq⟩ := mh_oi hq
  obtain ⟨q1, e1, hq⟩ := mh_ob hq
  refine st_invV (pc := 2) (ci := 12) (vs := [.int l1]) (rest := []) (st2 := [.int q1.1]) dX12_isEnd_2 okX12_sort (by decide) hkq1 hbq1 wd_1274 wd_1276 wp_37 pdX12_sort rfl rfl rfl rfl (Nat.le_trans (by decide) hd) (Nat.le_of_ble_eq_true rfl) (T_X12_sort (Nat.le_refl _) e1) rfl ?_
  refine st_iconst (pc := 5) (v := (2 : Int32)) dX12_isEnd_5 rfl ?_
  refine bd_icmp_lt (pc := 6) (tgt := 13) hq dX12_isEnd_6 (by decide) (fun _ hq => ?_) (fun _ hq => ?_)
  ·
    refine st_iconst (pc := 13) (v := (0 : Int32)) dX12_isEnd_13 rfl ?_
    exact bd_zret (pc := 14) hq dX12_isEnd_14 rfl
  ·
    refine st_iconst (pc := 9) (v := (1 : Int32)) dX12_isEnd_9 rfl ?_
    refine st_goto (pc := 10) (tgt := 14) dX12_isEnd_10 (by decide) ?_
    exact bd_zret (pc := 14) hq dX12_isEnd_14 rfl
-- HoleWaterModel.joint(III)I
theorem dX12_joint__36 : decode cX12_joint_ 36 = .ok (.aload_n 0, 1) := by decide +kernel
theorem dX12_joint__37 : decode cX12_joint_ 37 = .ok (.iconst 1, 1) := by decide +kernel
theorem dX12_joint__38 : decode cX12_joint_ 38 = .ok (.invokevirtual 80, 3) := by decide +kernel
theorem dX12_joint__41 : decode cX12_joint_ 41 = .ok (.ireturn, 1) := by decide +kernel
theorem dX12_joint__96 : decode cX12_joint_ 96 = .ok (.iload 5, 2) := by decide +kernel
theorem dX12_joint__98 : decode cX12_joint_ 98 = .ok (.bipush 96, 2) := by decide +kernel
theorem dX12_joint__100 : decode cX12_joint_ 100 = .ok (.if_icmp .ge 27, 3) := by decide +kernel
theorem dX12_joint__127 : decode cX12_joint_ 127 = .ok (.aload_n 0, 1) := by decide +kernel
theorem dX12_joint__128 : decode cX12_joint_ 128 = .ok (.getfield 9, 3) := by decide +kernel
theorem dX12_joint__131 : decode cX12_joint_ 131 = .ok (.iload 4, 2) := by decide +kernel
theorem dX12_joint__133 : decode cX12_joint_ 133 = .ok (.invokestatic 71, 3) := by decide +kernel
theorem dX12_joint__136 : decode cX12_joint_ 136 = .ok (.iload_n 1, 1) := by decide +kernel
theorem dX12_joint__137 : decode cX12_joint_ 137 = .ok (.iastore, 1) := by decide +kernel
theorem dX12_joint__138 : decode cX12_joint_ 138 = .ok (.aload_n 0, 1) := by decide +kernel
theorem dX12_joint__139 : decode cX12_joint_ 139 = .ok (.getfield 9, 3) := by decide +kernel
theorem dX12_joint__142 : decode cX12_joint_ 142 = .ok (.iload 4, 2) := by decide +kernel
theorem dX12_joint__144 : decode cX12_joint_ 144 = .ok (.invokestatic 71, 3) := by decide +kernel
theorem dX12_joint__147 : decode cX12_joint_ 147 = .ok (.iconst 1, 1) := by decide +kernel
theorem dX12_joint__148 : decode cX12_joint_ 148 = .ok (.iadd, 1) := by decide +kernel
theorem dX12_joint__149 : decode cX12_joint_ 149 = .ok (.iload_n 2, 1) := by decide +kernel
theorem dX12_joint__150 : decode cX12_joint_ 150 = .ok (.iastore, 1) := by decide +kernel
theorem dX12_joint__151 : decode cX12_joint_ 151 = .ok (.aload_n 0, 1) := by decide +kernel
theorem dX12_joint__152 : decode cX12_joint_ 152 = .ok (.getfield 9, 3) := by decide +kernel
theorem dX12_joint__155 : decode cX12_joint_ 155 = .ok (.iload 4, 2) := by decide +kernel
theorem dX12_joint__157 : decode cX12_joint_ 157 = .ok (.invokestatic 71, 3) := by decide +kernel
theorem dX12_joint__160 : decode cX12_joint_ 160 = .ok (.iconst 2, 1) := by decide +kernel
theorem dX12_joint__161 : decode cX12_joint_ 161 = .ok (.iadd, 1) := by decide +kernel
theorem dX12_joint__162 : decode cX12_joint_ 162 = .ok (.iload_n 3, 1) := by decide +kernel
theorem dX12_joint__163 : decode cX12_joint_ 163 = .ok (.iastore, 1) := by decide +kernel
theorem dX12_joint__164 : decode cX12_joint_ 164 = .ok (.aload_n 0, 1) := by decide +kernel
theorem dX12_joint__165 : decode cX12_joint_ 165 = .ok (.getfield 9, 3) := by decide +kernel
theorem dX12_joint__168 : decode cX12_joint_ 168 = .ok (.iconst 1, 1) := by decide +kernel
theorem dX12_joint__169 : decode cX12_joint_ 169 = .ok (.dup2, 1) := by decide +kernel
theorem dX12_joint__170 : decode cX12_joint_ 170 = .ok (.iaload, 1) := by decide +kernel
theorem dX12_joint__171 : decode cX12_joint_ 171 = .ok (.iconst 1, 1) := by decide +kernel
theorem dX12_joint__172 : decode cX12_joint_ 172 = .ok (.iadd, 1) := by decide +kernel
theorem dX12_joint__173 : decode cX12_joint_ 173 = .ok (.iastore, 1) := by decide +kernel
theorem dX12_joint__174 : decode cX12_joint_ 174 = .ok (.iload 4, 2) := by decide +kernel
theorem dX12_joint__176 : decode cX12_joint_ 176 = .ok (.ireturn, 1) := by decide +kernel
theorem dX12_joint__103 : decode cX12_joint_ 103 = .ok (.aload_n 0, 1) := by decide +kernel
theorem dX12_joint__104 : decode cX12_joint_ 104 = .ok (.getfield 9, 3) := by decide +kernel
theorem dX12_joint__107 : decode cX12_joint_ 107 = .ok (.sipush 5380, 3) := by decide +kernel
theorem dX12_joint__110 : decode cX12_joint_ 110 = .ok (.bipush 96, 2) := by decide +kernel
theorem dX12_joint__112 : decode cX12_joint_ 112 = .ok (.iload 4, 2) := by decide +kernel
theorem dX12_joint__114 : decode cX12_joint_ 114 = .ok (.imul, 1) := by decide +kernel
theorem dX12_joint__115 : decode cX12_joint_ 115 = .ok (.iadd, 1) := by decide +kernel
theorem dX12_joint__116 : decode cX12_joint_ 116 = .ok (.iload 5, 2) := by decide +kernel
theorem dX12_joint__118 : decode cX12_joint_ 118 = .ok (.iadd, 1) := by decide +kernel
theorem dX12_joint__119 : decode cX12_joint_ 119 = .ok (.iconst 0, 1) := by decide +kernel
theorem dX12_joint__120 : decode cX12_joint_ 120 = .ok (.iastore, 1) := by decide +kernel
theorem dX12_joint__121 : decode cX12_joint_ 121 = .ok (.iinc 5 1, 3) := by decide +kernel
theorem dX12_joint__124 : decode cX12_joint_ 124 = .ok (.goto (-28), 3) := by decide +kernel
theorem dX12_joint__66 : decode cX12_joint_ 66 = .ok (.iload 5, 2) := by decide +kernel
theorem dX12_joint__68 : decode cX12_joint_ 68 = .ok (.bipush 11, 2) := by decide +kernel
theorem dX12_joint__70 : decode cX12_joint_ 70 = .ok (.if_icmp .ge 23, 3) := by decide +kernel
theorem dX12_joint__93 : decode cX12_joint_ 93 = .ok (.iconst 0, 1) := by decide +kernel
theorem dX12_joint__94 : decode cX12_joint_ 94 = .ok (.istore 5, 2) := by decide +kernel
theorem dX12_joint__73 : decode cX12_joint_ 73 = .ok (.aload_n 0, 1) := by decide +kernel
theorem dX12_joint__74 : decode cX12_joint_ 74 = .ok (.getfield 9, 3) := by decide +kernel
theorem dX12_joint__77 : decode cX12_joint_ 77 = .ok (.iload 4, 2) := by decide +kernel
theorem dX12_joint__79 : decode cX12_joint_ 79 = .ok (.invokestatic 71, 3) := by decide +kernel
theorem dX12_joint__82 : decode cX12_joint_ 82 = .ok (.iload 5, 2) := by decide +kernel
theorem dX12_joint__84 : decode cX12_joint_ 84 = .ok (.iadd, 1) := by decide +kernel
theorem dX12_joint__85 : decode cX12_joint_ 85 = .ok (.iconst 0, 1) := by decide +kernel
theorem dX12_joint__86 : decode cX12_joint_ 86 = .ok (.iastore, 1) := by decide +kernel
theorem dX12_joint__87 : decode cX12_joint_ 87 = .ok (.iinc 5 1, 3) := by decide +kernel
theorem dX12_joint__90 : decode cX12_joint_ 90 = .ok (.goto (-24), 3) := by decide +kernel
theorem dX12_joint__0 : decode cX12_joint_ 0 = .ok (.iload_n 1, 1) := by decide +kernel
theorem dX12_joint__1 : decode cX12_joint_ 1 = .ok (.i2l, 1) := by decide +kernel
theorem dX12_joint__2 : decode cX12_joint_ 2 = .ok (.lconst 0, 1) := by decide +kernel
theorem dX12_joint__3 : decode cX12_joint_ 3 = .ok (.ldc2_w 69, 3) := by decide +kernel
theorem dX12_joint__6 : decode cX12_joint_ 6 = .ok (.invokestatic 65, 3) := by decide +kernel
theorem dX12_joint__9 : decode cX12_joint_ 9 = .ok (.ifCond .eq 27, 3) := by decide +kernel
theorem dX12_joint__12 : decode cX12_joint_ 12 = .ok (.iload_n 2, 1) := by decide +kernel
theorem dX12_joint__13 : decode cX12_joint_ 13 = .ok (.i2l, 1) := by decide +kernel
theorem dX12_joint__14 : decode cX12_joint_ 14 = .ok (.lconst 0, 1) := by decide +kernel
theorem dX12_joint__15 : decode cX12_joint_ 15 = .ok (.ldc2_w 78, 3) := by decide +kernel
theorem dX12_joint__18 : decode cX12_joint_ 18 = .ok (.invokestatic 65, 3) := by decide +kernel
theorem dX12_joint__21 : decode cX12_joint_ 21 = .ok (.ifCond .eq 15, 3) := by decide +kernel
theorem dX12_joint__24 : decode cX12_joint_ 24 = .ok (.iload_n 3, 1) := by decide +kernel
theorem dX12_joint__25 : decode cX12_joint_ 25 = .ok (.i2l, 1) := by decide +kernel
theorem dX12_joint__26 : decode cX12_joint_ 26 = .ok (.lconst 0, 1) := by decide +kernel
theorem dX12_joint__27 : decode cX12_joint_ 27 = .ok (.ldc2_w 78, 3) := by decide +kernel
theorem dX12_joint__30 : decode cX12_joint_ 30 = .ok (.invokestatic 65, 3) := by decide +kernel
theorem dX12_joint__33 : decode cX12_joint_ 33 = .ok (.ifCond .ne 9, 3) := by decide +kernel
theorem dX12_joint__42 : decode cX12_joint_ 42 = .ok (.aload_n 0, 1) := by decide +kernel
theorem dX12_joint__43 : decode cX12_joint_ 43 = .ok (.getfield 9, 3) := by decide +kernel
theorem dX12_joint__46 : decode cX12_joint_ 46 = .ok (.iconst 1, 1) := by decide +kernel
theorem dX12_joint__47 : decode cX12_joint_ 47 = .ok (.iaload, 1) := by decide +kernel
theorem dX12_joint__48 : decode cX12_joint_ 48 = .ok (.istore 4, 2) := by decide +kernel
theorem dX12_joint__50 : decode cX12_joint_ 50 = .ok (.iload 4, 2) := by decide +kernel
theorem dX12_joint__52 : decode cX12_joint_ 52 = .ok (.bipush 16, 2) := by decide +kernel
theorem dX12_joint__54 : decode cX12_joint_ 54 = .ok (.if_icmp .ne 9, 3) := by decide +kernel
theorem dX12_joint__57 : decode cX12_joint_ 57 = .ok (.aload_n 0, 1) := by decide +kernel
theorem dX12_joint__58 : decode cX12_joint_ 58 = .ok (.iconst 4, 1) := by decide +kernel
theorem dX12_joint__59 : decode cX12_joint_ 59 = .ok (.invokevirtual 80, 3) := by decide +kernel
theorem dX12_joint__62 : decode cX12_joint_ 62 = .ok (.ireturn, 1) := by decide +kernel
theorem dX12_joint__63 : decode cX12_joint_ 63 = .ok (.iconst 0, 1) := by decide +kernel
theorem dX12_joint__64 : decode cX12_joint_ 64 = .ok (.istore 5, 2) := by decide +kernel
def D_X12_joint__36 (N : Nat) (h : mh_H) (l0 : Nat) : Option (Int32 × mh_H) :=
  kO h 12 l0 <|
  (D_X12_error N h l0 (1 : Int32)).bind fun q1 =>
  some (q1.1, q1.2)
set_option maxHeartbeats 4000000 in
set_option maxRecDepth 100000 in
theorem T_X12_joint__36 {P : mh_E → Prop} {N d : Nat} (hd : 2 ≤ d) {z : (Int32 × mh_H)} {h : mh_H} {l0 : Nat} (hq : D_X12_joint__36 N h l0 = some z) : mh_go P d mX12_joint_ 36 [some (.ref l0), none, none, none, none, none] [] h (some (.int z.1)) z.2 := by
  unfold D_X12_joint__36 at hq
  refine st_aload_n (pc := 36) dX12_joint__36 rfl ?_
  refine st_iconst (pc := 37) (v := (1 : Int32)) dX12_joint__37 rfl ?_
  obtain ⟨⟨hbq1, hkq1⟩, hq⟩ := mh_oi hq
  obtain ⟨q1, e1, hq⟩ := mh_ob hq
  refine st_invV (pc := 38) (ci := 12) (vs := [.int (1 : Int32)]) (rest := []) (st2 := [.int q1.1]) dX12_joint__38 okX12_error (by decide) hkq1 hbq1 wd_1247 wd_1249 wp_34 pdX12_error rfl rfl rfl rfl (Nat.le_trans (by decide) hd) (Nat.le_of_ble_eq_true rfl) (T_X12_error (Nat.le_refl _) e1) rfl ?_
  exact bd_iret (pc := 41) hq dX12_joint__41 rfl
def D_X12_joint__96 (N : Nat) : Nat → mh_H → Nat → Int32 → Int32 → Int32 → Int32 → Int32 → Option (Int32 × mh_H)
  | 0, _, _, _, _, _, _, _ => none
  | F + 1, h, l0, l1, l2, l3, l4, l5 =>
    if (96 : Int32) ≤ l5 then ((gR h 12 l0 0).bind fun v1 =>
    (D_X12_joint N h l4).bind fun q2 =>
    (uI q2.2 v1 q2.1 l1).bind fun h3 =>
    (gR h3 12 l0 0).bind fun v4 =>
    (D_X12_joint N h3 l4).bind fun q5 =>
    (uI q5.2 v4 (q5.1 + (1 : Int32)) l2).bind fun h6 =>
    (gR h6 12 l0 0).bind fun v7 =>
    (D_X12_joint N h6 l4).bind fun q8 =>
    (uI q8.2 v7 (q8.1 + (2 : Int32)) l3).bind fun h9 =>
    (gR h9 12 l0 0).bind fun v10 =>
    (aI h9 v10 (1 : Int32)).bind fun v11 =>
    (uI h9 v10 (1 : Int32) (v11 + (1 : Int32))).bind fun h12 =>
    some (l4, h12))
    else ((gR h 12 l0 0).bind fun v1 =>
    (uI h v1 (((5380 : Int32) + ((96 : Int32) * l4)) + l5) (0 : Int32)).bind fun h2 =>
    (D_X12_joint__96 N F) h2 l0 l1 l2 l3 l4 (l5 + Int32.ofInt (1)))
set_option maxHeartbeats 4000000 in
set_option maxRecDepth 100000 in
theorem T_X12_joint__96 {P : mh_E → Prop} {N d : Nat} (hd : 2 ≤ d) {z : (Int32 × mh_H)} : ∀ (F : Nat) (h : mh_H) (l0 : Nat) (l1 : Int32) (l2 : Int32) (l3 : Int32) (l4 : Int32) (l5 : Int32), D_X12_joint__96 N F h l0 l1 l2 l3 l4 l5 = some z → mh_go P d mX12_joint_ 96 [some (.ref l0), some (.int l1), some (.int l2), some (.int l3), some (.int l4), some (.int l5)] [] h (some (.int z.1)) z.2 := by
  intro F
  induction F with
  | zero => intro h l0 l1 l2 l3 l4 l5 hq; rw [D_X12_joint__96] at hq; cases hq
  | succ F ih =>
    intro h l0 l1 l2 l3 l4 l5 hq
    rw [D_X12_joint__96] at hq
    refine st_iload (pc := 96) dX12_joint__96 rfl ?_
    refine st_bipush (pc := 98) (v := (96 : Int32)) dX12_joint__98 (by decide) ?_
    refine bd_icmp_ge (pc := 100) (tgt := 127) hq dX12_joint__100 (by decide) (fun _ hq => ?_) (fun _ hq => ?_)
    ·
      refine st_aload_n (pc := 127) dX12_joint__127 rfl ?_
      refine bd_getr (pc := 128) hq dX12_joint__128 fl_12_9_12 rfl (fun v1 hq => ?_)
      refine st_iload (pc := 131) dX12_joint__131 rfl ?_
      obtain ⟨q2, e2, hq⟩ := mh_ob hq
      refine st_invS (pc := 133) (Y := mX12_joint) (vs := [.int l4]) (rest := [.ref v1]) (st2 := [.int q2.1, .ref v1]) dX12_joint__133 okX12_joint wd_1252 wd_1253 pdX12_joint rfl rfl rfl rfl (Nat.le_trans (by decide) hd) (Nat.le_of_ble_eq_true rfl) (T_X12_joint (Nat.le_refl _) e2) rfl ?_
      refine st_iload_n (pc := 136) dX12_joint__136 rfl ?_
      refine bd_iast (pc := 137) hq dX12_joint__137 (fun h3 hq => ?_)
      refine st_aload_n (pc := 138) dX12_joint__138 rfl ?_
      refine bd_getr (pc := 139) hq dX12_joint__139 fl_12_9_12 rfl (fun v4 hq => ?_)
      refine st_iload (pc := 142) dX12_joint__142 rfl ?_
      obtain ⟨q5, e5, hq⟩ := mh_ob hq
      refine st_invS (pc := 144) (Y := mX12_joint) (vs := [.int l4]) (rest := [.ref v4]) (st2 := [.int q5.1, .ref v4]) dX12_joint__144 okX12_joint wd_1252 wd_1253 pdX12_joint rfl rfl rfl rfl (Nat.le_trans (by decide) hd) (Nat.le_of_ble_eq_true rfl) (T_X12_joint (Nat.le_refl _) e5) rfl ?_
      refine st_iconst (pc := 147) (v := (1 : Int32)) dX12_joint__147 rfl ?_
      refine st_iadd (pc := 148) dX12_joint__148 ?_
      refine st_iload_n (pc := 149) dX12_joint__149 rfl ?_
      refine bd_iast (pc := 150) hq dX12_joint__150 (fun h6 hq => ?_)
      refine st_aload_n (pc := 151) dX12_joint__151 rfl ?_
      refine bd_getr (pc := 152) hq dX12_joint__152 fl_12_9_12 rfl (fun v7 hq => ?_)
      refine st_iload (pc := 155) dX12_joint__155 rfl ?_
      obtain ⟨q8, e8, hq⟩ := mh_ob hq
      refine st_invS (pc := 157) (Y := mX12_joint) (vs := [.int l4]) (rest := [.ref v7]) (st2 := [.int q8.1, .ref v7]) dX12_joint__157 okX12_joint wd_1252 wd_1253 pdX12_joint rfl rfl rfl rfl (Nat.le_trans (by decide) hd) (Nat.le_of_ble_eq_true rfl) (T_X12_joint (Nat.le_refl _) e8) rfl ?_
      refine st_iconst (pc := 160) (v := (2 : Int32)) dX12_joint__160 rfl ?_
      refine st_iadd (pc := 161) dX12_joint__161 ?_
      refine st_iload_n (pc := 162) dX12_joint__162 rfl ?_
      refine bd_iast (pc := 163) hq dX12_joint__163 (fun h9 hq => ?_)
      refine st_aload_n (pc := 164) dX12_joint__164 rfl ?_
      refine bd_getr (pc := 165) hq dX12_joint__165 fl_12_9_12 rfl (fun v10 hq => ?_)
      refine st_iconst (pc := 168) (v := (1 : Int32)) dX12_joint__168 rfl ?_
      refine st_dup2 (pc := 169) dX12_joint__169 rfl rfl ?_
      refine bd_iald (pc := 170) hq dX12_joint__170 (fun v11 hq => ?_)
      refine st_iconst (pc := 171) (v := (1 : Int32)) dX12_joint__171 rfl ?_
      refine st_iadd (pc := 172) dX12_joint__172 ?_
      refine bd_iast (pc := 173) hq dX12_joint__173 (fun h12 hq => ?_)
      refine st_iload (pc := 174) dX12_joint__174 rfl ?_
      exact bd_iret (pc := 176) hq dX12_joint__176 rfl
    ·
      refine st_aload_n (pc := 103) dX12_joint__103 rfl ?_
      refine bd_getr (pc := 104) hq dX12_joint__104 fl_12_9_12 rfl (fun v1 hq => ?_)
      refine st_sipush (pc := 107) (v := (5380 : Int32)) dX12_joint__107 (by decide) ?_
      refine st_bipush (pc := 110) (v := (96 : Int32)) dX12_joint__110 (by decide) ?_
      refine st_iload (pc := 112) dX12_joint__112 rfl ?_
      refine st_imul (pc := 114) dX12_joint__114 ?_
      refine st_iadd (pc := 115) dX12_joint__115 ?_
      refine st_iload (pc := 116) dX12_joint__116 rfl ?_
      refine st_iadd (pc := 118) dX12_joint__118 ?_
      refine st_iconst (pc := 119) (v := (0 : Int32)) dX12_joint__119 rfl ?_
      refine bd_iast (pc := 120) hq dX12_joint__120 (fun h2 hq => ?_)
      refine st_iinc (pc := 121) (lv' := [some (.ref l0), some (.int l1), some (.int l2), some (.int l3), some (.int l4), some (.int (l5 + Int32.ofInt (1)))]) dX12_joint__121 rfl rfl (by decide) rfl ?_
      refine st_goto (pc := 124) (tgt := 96) dX12_joint__124 (by decide) ?_
      exact ih _ _ _ _ _ _ _ hq
def D_X12_joint__66 (N : Nat) : Nat → mh_H → Nat → Int32 → Int32 → Int32 → Int32 → Int32 → Option (Int32 × mh_H)
  | 0, _, _, _, _, _, _, _ => none
  | F + 1, h, l0, l1, l2, l3, l4, l5 =>
    if (11 : Int32) ≤ l5 then (D_X12_joint__96 N N h l0 l1 l2 l3 l4 (0 : Int32))
    else ((gR h 12 l0 0).bind fun v1 =>
    (D_X12_joint N h l4).bind fun q2 =>
    (uI q2.2 v1 (q2.1 + l5) (0 : Int32)).bind fun h3 =>
    (D_X12_joint__66 N F) h3 l0 l1 l2 l3 l4 (l5 + Int32.ofInt (1)))
set_option maxHeartbeats 4000000 in
set_option maxRecDepth 100000 in
theorem T_X12_joint__66 {P : mh_E → Prop} {N d : Nat} (hd : 2 ≤ d) {z : (Int32 × mh_H)} : ∀ (F : Nat) (h : mh_H) (l0 : Nat) (l1 : Int32) (l2 : Int32) (l3 : Int32) (l4 : Int32) (l5 : Int32), D_X12_joint__66 N F h l0 l1 l2 l3 l4 l5 = some z → mh_go P d mX12_joint_ 66 [some (.ref l0), some (.int l1), some (.int l2), some (.int l3), some (.int l4), some (.int l5)] [] h (some (.int z.1)) z.2 := by
  intro F
  induction F with
  | zero => intro h l0 l1 l2 l3 l4 l5 hq; rw [D_X12_joint__66] at hq; cases hq
  | succ F ih =>
    intro h l0 l1 l2 l3 l4 l5 hq
    rw [D_X12_joint__66] at hq
    refine st_iload (pc := 66) dX12_joint__66 rfl ?_
    refine st_bipush (pc := 68) (v := (11 : Int32)) dX12_joint__68 (by decide) ?_
    refine bd_icmp_ge (pc := 70) (tgt := 93) hq dX12_joint__70 (by decide) (fun _ hq => ?_) (fun _ hq => ?_)
    ·
      refine st_iconst (pc := 93) (v := (0 : Int32)) dX12_joint__93 rfl ?_
      refine st_istore (pc := 94) (lv' := [some (.ref l0), some (.int l1), some (.int l2), some (.int l3), some (.int l4), some (.int (0 : Int32))]) dX12_joint__94 rfl (by decide) rfl ?_
      exact T_X12_joint__96 hd N _ _ _ _ _ _ _ hq
    ·
      refine st_aload_n (pc := 73) dX12_joint__73 rfl ?_
      refine bd_getr (pc := 74) hq dX12_joint__74 fl_12_9_12 rfl (fun v1 hq => ?_)
      refine st_iload (pc := 77) dX12_joint__77 rfl ?_
      obtain ⟨q2, e2, hq⟩ := mh_ob hq
      refine st_invS (pc := 79) (Y := mX12_joint) (vs := [.int l4]) (rest := [.ref v1]) (st2 := [.int q2.1, .ref v1]) dX12_joint__79 okX12_joint wd_1252 wd_1253 pdX12_joint rfl rfl rfl rfl (Nat.le_trans (by decide) hd) (Nat.le_of_ble_eq_true rfl) (T_X12_joint (Nat.le_refl _) e2) rfl ?_
      refine st_iload (pc := 82) dX12_joint__82 rfl ?_
      refine st_iadd (pc := 84) dX12_joint__84 ?_
      refine st_iconst (pc := 85) (v := (0 : Int32)) dX12_joint__85 rfl ?_
      refine bd_iast (pc := 86) hq dX12_joint__86 (fun h3 hq => ?_)
      refine st_iinc (pc := 87) (lv' := [some (.ref l0), some (.int l1), some (.int l2), some (.int l3), some (.int l4), some (.int (l5 + Int32.ofInt (1)))]) dX12_joint__87 rfl rfl (by decide) rfl ?_
      refine st_goto (pc := 90) (tgt := 66) dX12_joint__90 (by decide) ?_
      exact ih _ _ _ _ _ _ _ hq
def D_X12_joint_ (N : Nat) (h : mh_H) (l0 : Nat) (l1 : Int32) (l2 : Int32) (l3 : Int32) : Option (Int32 × mh_H) :=
  (D_X12_in N h l1.toInt64 (0 : Int64) (3 : Int64)).bind fun q1 =>
  if q1.1 = 0 then (D_X12_joint__36 N q1.2 l0)
  else ((D_X12_in N q1.2 l2.toInt64 (0 : Int64) (99 : Int64)).bind fun q2 =>
  if q2.1 = 0 then (D_X12_joint__36 N q2.2 l0)
  else ((D_X12_in N q2.2 l3.toInt64 (0 : Int64) (99 : Int64)).bind fun q3 =>
  if q3.1 = 0 then (D_X12_joint__36 N q3.2 l0)
  else ((gR q3.2 12 l0 0).bind fun v4 =>
  (aI q3.2 v4 (1 : Int32)).bind fun v5 =>
  if v5 = (16 : Int32) then (kO q3.2 12 l0 <|
  (D_X12_error N q3.2 l0 (4 : Int32)).bind fun q6 =>
  some (q6.1, q6.2))
  else (D_X12_joint__66 N N q3.2 l0 l1 l2 l3 v5 (0 : Int32)))))
set_option maxHeartbeats 4000000 in
set_option maxRecDepth 100000 in
theorem T_X12_joint_ {P : mh_E → Prop} {N d : Nat} (hd : 2 ≤ d) {z : (Int32 × mh_H)} {h : mh_H} {l0 : Nat} {l1 : Int32} {l2 : Int32} {l3 : Int32} (hq : D_X12_joint_ N h l0 l1 l2 l3 = some z) : mh_go P d mX12_joint_ 0 [some (.ref l0), some (.int l1), some (.int l2), some (.int l3), none, none] [] h (some (.int z.1)) z.2 := by
  unfold D_X12_joint_ at hq
  refine st_iload_n (pc := 0) dX12_joint__0 rfl ?_
  refine st_i2l (pc := 1) dX12_joint__1 ?_
  refine st_lconst (pc := 2) (v := 0) dX12_joint__2 rfl ?_
  refine st_ldc2 (pc := 3) (v := (3 : Int64)) dX12_joint__3 wd_1242 ?_
  obtain ⟨q1, e1, hq⟩ := mh_ob hq
  refine st_invS (pc := 6) (Y := mX12_in) (vs := [.long l1.toInt64, .long (0 : Int64), .long (3 : Int64)]) (rest := []) (st2 := [.int q1.1]) dX12_joint__6 okX12_in wd_1243 wd_1244 pdX12_in rfl rfl rfl rfl (Nat.le_trans (by decide) hd) (Nat.le_of_ble_eq_true rfl) (T_X12_in (Nat.le_refl _) e1) rfl ?_
  refine bd_if_eq (pc := 9) (tgt := 36) hq dX12_joint__9 (by decide) (fun _ hq => ?_) (fun _ hq => ?_)
  ·
    refine st_lesS (lv' := [some (.ref l0), none, none, none, none, none]) ⟨Or.inr rfl, Or.inl rfl, Or.inl rfl, Or.inl rfl, Or.inr rfl, Or.inr rfl, trivial⟩ ?_
    exact T_X12_joint__36 hd hq
  ·
    refine st_iload_n (pc := 12) dX12_joint__12 rfl ?_
    refine st_i2l (pc := 13) dX12_joint__13 ?_
    refine st_lconst (pc := 14) (v := 0) dX12_joint__14 rfl ?_
    refine st_ldc2 (pc := 15) (v := (99 : Int64)) dX12_joint__15 wd_1246 ?_
    obtain ⟨q2, e2, hq⟩ := mh_ob hq
    refine st_invS (pc := 18) (Y := mX12_in) (vs := [.long l2.toInt64, .long (0 : Int64), .long (99 : Int64)]) (rest := []) (st2 := [.int q2.1]) dX12_joint__18 okX12_in wd_1243 wd_1244 pdX12_in rfl rfl rfl rfl (Nat.le_trans (by decide) hd) (Nat.le_of_ble_eq_true rfl) (T_X12_in (Nat.le_refl _) e2) rfl ?_
    refine bd_if_eq (pc := 21) (tgt := 36) hq dX12_joint__21 (by decide) (fun _ hq => ?_) (fun _ hq => ?_)
    ·
      refine st_lesS (lv' := [some (.ref l0), none, none, none, none, none]) ⟨Or.inr rfl, Or.inl rfl, Or.inl rfl, Or.inl rfl, Or.inr rfl, Or.inr rfl, trivial⟩ ?_
      exact T_X12_joint__36 hd hq
    ·
      refine st_iload_n (pc := 24) dX12_joint__24 rfl ?_
      refine st_i2l (pc := 25) dX12_joint__25 ?_
      refine st_lconst (pc := 26) (v := 0) dX12_joint__26 rfl ?_
      refine st_ldc2 (pc := 27) (v := (99 : Int64)) dX12_joint__27 wd_1246 ?_
      obtain ⟨q3, e3, hq⟩ := mh_ob hq
      refine st_invS (pc := 30) (Y := mX12_in) (vs := [.long l3.toInt64, .long (0 : Int64), .long (99 : Int64)]) (rest := []) (st2 := [.int q3.1]) dX12_joint__30 okX12_in wd_1243 wd_1244 pdX12_in rfl rfl rfl rfl (Nat.le_trans (by decide) hd) (Nat.le_of_ble_eq_true rfl) (T_X12_in (Nat.le_refl _) e3) rfl ?_
      refine bd_if_ne (pc := 33) (tgt := 42) hq dX12_joint__33 (by decide) (fun _ hq => ?_) (fun _ hq => ?_)
      ·
        refine st_lesS (lv' := [some (.ref l0), none, none, none, none, none]) ⟨Or.inr rfl, Or.inl rfl, Or.inl rfl, Or.inl rfl, Or.inr rfl, Or.inr rfl, trivial⟩ ?_
        exact T_X12_joint__36 hd hq
      ·
        refine st_aload_n (pc := 42) dX12_joint__42 rfl ?_
        refine bd_getr (pc := 43) hq dX12_joint__43 fl_12_9_12 rfl (fun v4 hq => ?_)
        refine st_iconst (pc := 46) (v := (1 : Int32)) dX12_joint__46 rfl ?_
        refine bd_iald (pc := 47) hq dX12_joint__47 (fun v5 hq => ?_)
        refine st_istore (pc := 48) (lv' := [some (.ref l0), some (.int l1), some (.int l2), some (.int l3), some (.int v5), none]) dX12_joint__48 rfl (by decide) rfl ?_
        refine st_iload (pc := 50) dX12_joint__50 rfl ?_
        refine st_bipush (pc := 52) (v := (16 : Int32)) dX12_joint__52 (by decide) ?_
        refine bd_icmp_ne (pc := 54) (tgt := 63) hq dX12_joint__54 (by decide) (fun _ hq => ?_) (fun _ hq => ?_)
        ·
          refine st_aload_n (pc := 57) dX12_joint__57 rfl ?_
          refine st_iconst (pc := 58) (v := (4 : Int32)) dX12_joint__58 rfl ?_
          obtain ⟨⟨hbq6, hkq6⟩, hq⟩ := mh_oi hq
          obtain ⟨q6, e6, hq⟩ := mh_ob hq
          refine st_invV (pc := 59) (ci := 12) (vs := [.int (4 : Int32)]) (rest := []) (st2 := [.int q6.1]) dX12_joint__59 okX12_error (by decide) hkq6 hbq6 wd_1247 wd_1249 wp_34 pdX12_error rfl rfl rfl rfl (Nat.le_trans (by decide) hd) (Nat.le_of_ble_eq_true rfl) (T_X12_error (Nat.le_refl _) e6) rfl ?_
          exact bd_iret (pc := 62) hq dX12_joint__62 rfl
        ·
          refine st_iconst (pc := 63) (v := (0 : Int32)) dX12_joint__63 rfl ?_
          refine st_istore (pc := 64) (lv' := [some (.ref l0), some (.int l1), some (.int l2), some (.int l3), some (.int v5), some (.int (0 : Int32))]) dX12_joint__64 rfl (by decide) rfl ?_
          exact T_X12_joint__66 hd N _ _ _ _ _ _ _ hq
-- HoleWaterModel.jointIs(II)I
theorem dX12_jointIs_34 : decode cX12_jointIs 34 = .ok (.aload_n 0, 1) := by decide +kernel
theorem dX12_jointIs_35 : decode cX12_jointIs 35 = .ok (.iconst 1, 1) := by decide +kernel
theorem dX12_jointIs_36 : decode cX12_jointIs 36 = .ok (.invokevirtual 80, 3) := by decide +kernel
theorem dX12_jointIs_39 : decode cX12_jointIs 39 = .ok (.ireturn, 1) := by decide +kernel
theorem dX12_jointIs_0 : decode cX12_jointIs 0 = .ok (.aload_n 0, 1) := by decide +kernel
theorem dX12_jointIs_1 : decode cX12_jointIs 1 = .ok (.iload_n 1, 1) := by decide +kernel
theorem dX12_jointIs_2 : decode cX12_jointIs 2 = .ok (.invokevirtual 83, 3) := by decide +kernel
theorem dX12_jointIs_5 : decode cX12_jointIs 5 = .ok (.ifCond .eq 29, 3) := by decide +kernel
theorem dX12_jointIs_8 : decode cX12_jointIs 8 = .ok (.iload_n 2, 1) := by decide +kernel
theorem dX12_jointIs_9 : decode cX12_jointIs 9 = .ok (.i2l, 1) := by decide +kernel
theorem dX12_jointIs_10 : decode cX12_jointIs 10 = .ok (.lconst 0, 1) := by decide +kernel
theorem dX12_jointIs_11 : decode cX12_jointIs 11 = .ok (.ldc2_w 87, 3) := by decide +kernel
theorem dX12_jointIs_14 : decode cX12_jointIs 14 = .ok (.invokestatic 65, 3) := by decide +kernel
theorem dX12_jointIs_17 : decode cX12_jointIs 17 = .ok (.ifCond .eq 17, 3) := by decide +kernel
theorem dX12_jointIs_20 : decode cX12_jointIs 20 = .ok (.aload_n 0, 1) := by decide +kernel
theorem dX12_jointIs_21 : decode cX12_jointIs 21 = .ok (.getfield 9, 3) := by decide +kernel
theorem dX12_jointIs_24 : decode cX12_jointIs 24 = .ok (.iload_n 1, 1) := by decide +kernel
theorem dX12_jointIs_25 : decode cX12_jointIs 25 = .ok (.invokestatic 71, 3) := by decide +kernel
theorem dX12_jointIs_28 : decode cX12_jointIs 28 = .ok (.iload_n 2, 1) := by decide +kernel
theorem dX12_jointIs_29 : decode cX12_jointIs 29 = .ok (.iadd, 1) := by decide +kernel
theorem dX12_jointIs_30 : decode cX12_jointIs 30 = .ok (.iaload, 1) := by decide +kernel
theorem dX12_jointIs_31 : decode cX12_jointIs 31 = .ok (.goto 8, 3) := by decide +kernel
def D_X12_jointIs_34 (N : Nat) (h : mh_H) (l0 : Nat) : Option (Int32 × mh_H) :=
  kO h 12 l0 <|
  (D_X12_error N h l0 (1 : Int32)).bind fun q1 =>
  some (q1.1, q1.2)
set_option maxHeartbeats 4000000 in
set_option maxRecDepth 100000 in
theorem T_X12_jointIs_34 {P : mh_E → Prop} {N d : Nat} (hd : 3 ≤ d) {z : (Int32 × mh_H)} {h : mh_H} {l0 : Nat} (hq : D_X12_jointIs_34 N h l0 = some z) : mh_go P d mX12_jointIs 34 [some (.ref l0), none, none] [] h (some (.int z.1)) z.2 := by
  unfold D_X12_jointIs_34 at hq
  refine st_aload_n (pc := 34) dX12_jointIs_34 rfl ?_
  refine st_iconst (pc := 35) (v := (1 : Int32)) dX12_jointIs_35 rfl ?_
  obtain ⟨⟨hbq1, hkq1⟩, hq⟩ := mh_oi hq
  obtain ⟨q1, e1, hq⟩ := mh_ob hq
  refine st_invV (pc := 36) (ci := 12) (vs := [.int (1 : Int32)]) (rest := []) (st2 := [.int q1.1]) dX12_jointIs_36 okX12_error (by decide) hkq1 hbq1 wd_1247 wd_1249 wp_34 pdX12_error rfl rfl rfl rfl (Nat.le_trans (by decide) hd) (Nat.le_of_ble_eq_true rfl) (T_X12_error (Nat.le_refl _) e1) rfl ?_
  exact bd_iret (pc := 39) hq dX12_jointIs_39 rfl
def D_X12_jointIs (N : Nat) (h : mh_H) (l0 : Nat) (l1 : Int32) (l2 : Int32) : Option (Int32 × mh_H) :=
  kO h 12 l0 <|
  (D_X12_isJoint N h l0 l1).bind fun q1 =>
  if q1.1 = 0 then (D_X12_jointIs_34 N q1.2 l0)
  else ((D_X12_in N q1.2 l2.toInt64 (0 : Int64) (6 : Int64)).bind fun q2 =>
  if q2.1 = 0 then (D_X12_jointIs_34 N q2.2 l0)
  else ((gR q2.2 12 l0 0).bind fun v3 =>
  (D_X12_joint N q2.2 l1).bind fun q4 =>
  (aI q4.2 v3 (q4.1 + l2)).bind fun v5 =>
  some (v5, q4.2)))
set_option maxHeartbeats 4000000 in
set_option maxRecDepth 100000 in
theorem T_X12_jointIs {P : mh_E → Prop} {N d : Nat} (hd : 3 ≤ d) {z : (Int32 × mh_H)} {h : mh_H} {l0 : Nat} {l1 : Int32} {l2 : Int32} (hq : D_X12_jointIs N h l0 l1 l2 = some z) : mh_go P d mX12_jointIs 0 [some (.ref l0), some (.int l1), some (.int l2)] [] h (some (.int z.1)) z.2 := by
  unfold D_X12_jointIs at hq
  refine st_aload_n (pc := 0) dX12_jointIs_0 rfl ?_
  refine st_iload_n (pc := 1) dX12_jointIs_1 rfl ?_
  obtain ⟨⟨hbq1, hkq1⟩, hq⟩ := mh_oi hq
  obtain ⟨q1, e1, hq⟩ := mh_ob hq
  refine st_invV (pc := 2) (ci := 12) (vs := [.int l1]) (rest := []) (st2 := [.int q1.1]) dX12_jointIs_2 okX12_isJoint (by decide) hkq1 hbq1 wd_1259 wd_1261 wp_35 pdX12_isJoint rfl rfl rfl rfl (Nat.le_trans (by decide) hd) (Nat.le_of_ble_eq_true rfl) (T_X12_isJoint (Nat.le_refl _) e1) rfl ?_
  refine bd_if_eq (pc := 5) (tgt := 34) hq dX12_jointIs_5 (by decide) (fun _ hq => ?_) (fun _ hq => ?_)
  ·
    refine st_lesS (lv' := [some (.ref l0), none, none]) ⟨Or.inr rfl, Or.inl rfl, Or.inl rfl, trivial⟩ ?_
    exact T_X12_jointIs_34 hd hq
  ·
    refine st_iload_n (pc := 8) dX12_jointIs_8 rfl ?_
    refine st_i2l (pc := 9) dX12_jointIs_9 ?_
    refine st_lconst (pc := 10) (v := 0) dX12_jointIs_10 rfl ?_
    refine st_ldc2 (pc := 11) (v := (6 : Int64)) dX12_jointIs_11 wd_1263 ?_
    obtain ⟨q2, e2, hq⟩ := mh_ob hq
    refine st_invS (pc := 14) (Y := mX12_in) (vs := [.long l2.toInt64, .long (0 : Int64), .long (6 : Int64)]) (rest := []) (st2 := [.int q2.1]) dX12_jointIs_14 okX12_in wd_1243 wd_1244 pdX12_in rfl rfl rfl rfl (Nat.le_trans (by decide) hd) (Nat.le_of_ble_eq_true rfl) (T_X12_in (Nat.le_refl _) e2) rfl ?_
    refine bd_if_eq (pc := 17) (tgt := 34) hq dX12_jointIs_17 (by decide) (fun _ hq => ?_) (fun _ hq => ?_)
    ·
      refine st_lesS (lv' := [some (.ref l0), none, none]) ⟨Or.inr rfl, Or.inl rfl, Or.inl rfl, trivial⟩ ?_
      exact T_X12_jointIs_34 hd hq
    ·
      refine st_aload_n (pc := 20) dX12_jointIs_20 rfl ?_
      refine bd_getr (pc := 21) hq dX12_jointIs_21 fl_12_9_12 rfl (fun v3 hq => ?_)
      refine st_iload_n (pc := 24) dX12_jointIs_24 rfl ?_
      obtain ⟨q4, e4, hq⟩ := mh_ob hq
      refine st_invS (pc := 25) (Y := mX12_joint) (vs := [.int l1]) (rest := [.ref v3]) (st2 := [.int q4.1, .ref v3]) dX12_jointIs_25 okX12_joint wd_1252 wd_1253 pdX12_joint rfl rfl rfl rfl (Nat.le_trans (by decide) hd) (Nat.le_of_ble_eq_true rfl) (T_X12_joint (Nat.le_refl _) e4) rfl ?_
      refine st_iload_n (pc := 28) dX12_jointIs_28 rfl ?_
      refine st_iadd (pc := 29) dX12_jointIs_29 ?_
      refine bd_iald (pc := 30) hq dX12_jointIs_30 (fun v5 hq => ?_)
      refine st_goto (pc := 31) (tgt := 39) dX12_jointIs_31 (by decide) ?_
      exact bd_iret (pc := 39) hq dX12_jointIs_39 rfl
-- HoleWaterModel.way(IIII)I
theorem dX12_way__71 : decode cX12_way_ 71 = .ok (.aload_n 0, 1) := by decide +kernel
theorem dX12_way__72 : decode cX12_way_ 72 = .ok (.iconst 1, 1) := by decide +kernel
theorem dX12_way__73 : decode cX12_way_ 73 = .ok (.invokevirtual 80, 3) := by decide +kernel
theorem dX12_way__76 : decode cX12_way_ 76 = .ok (.ireturn, 1) := by decide +kernel
theorem dX12_way__95 : decode cX12_way_ 95 = .ok (.aload_n 0, 1) := by decide +kernel
theorem dX12_way__96 : decode cX12_way_ 96 = .ok (.iconst 5, 1) := by decide +kernel
theorem dX12_way__97 : decode cX12_way_ 97 = .ok (.invokevirtual 80, 3) := by decide +kernel
theorem dX12_way__100 : decode cX12_way_ 100 = .ok (.ireturn, 1) := by decide +kernel
theorem dX12_way__165 : decode cX12_way_ 165 = .ok (.iload 9, 2) := by decide +kernel
theorem dX12_way__167 : decode cX12_way_ 167 = .ok (.sipush 215, 3) := by decide +kernel
theorem dX12_way__170 : decode cX12_way_ 170 = .ok (.if_icmp .ge 20, 3) := by decide +kernel
theorem dX12_way__190 : decode cX12_way_ 190 = .ok (.aload_n 0, 1) := by decide +kernel
theorem dX12_way__191 : decode cX12_way_ 191 = .ok (.getfield 9, 3) := by decide +kernel
theorem dX12_way__194 : decode cX12_way_ 194 = .ok (.iload 8, 2) := by decide +kernel
theorem dX12_way__196 : decode cX12_way_ 196 = .ok (.iload_n 1, 1) := by decide +kernel
theorem dX12_way__197 : decode cX12_way_ 197 = .ok (.iastore, 1) := by decide +kernel
theorem dX12_way__198 : decode cX12_way_ 198 = .ok (.aload_n 0, 1) := by decide +kernel
theorem dX12_way__199 : decode cX12_way_ 199 = .ok (.getfield 9, 3) := by decide +kernel
theorem dX12_way__202 : decode cX12_way_ 202 = .ok (.iload 8, 2) := by decide +kernel
theorem dX12_way__204 : decode cX12_way_ 204 = .ok (.iconst 1, 1) := by decide +kernel
theorem dX12_way__205 : decode cX12_way_ 205 = .ok (.iadd, 1) := by decide +kernel
theorem dX12_way__206 : decode cX12_way_ 206 = .ok (.iload 5, 2) := by decide +kernel
theorem dX12_way__208 : decode cX12_way_ 208 = .ok (.iastore, 1) := by decide +kernel
theorem dX12_way__209 : decode cX12_way_ 209 = .ok (.aload_n 0, 1) := by decide +kernel
theorem dX12_way__210 : decode cX12_way_ 210 = .ok (.getfield 9, 3) := by decide +kernel
theorem dX12_way__213 : decode cX12_way_ 213 = .ok (.iload 8, 2) := by decide +kernel
theorem dX12_way__215 : decode cX12_way_ 215 = .ok (.iconst 2, 1) := by decide +kernel
theorem dX12_way__216 : decode cX12_way_ 216 = .ok (.iadd, 1) := by decide +kernel
theorem dX12_way__217 : decode cX12_way_ 217 = .ok (.iload 6, 2) := by decide +kernel
theorem dX12_way__219 : decode cX12_way_ 219 = .ok (.iastore, 1) := by decide +kernel
theorem dX12_way__220 : decode cX12_way_ 220 = .ok (.aload_n 0, 1) := by decide +kernel
theorem dX12_way__221 : decode cX12_way_ 221 = .ok (.getfield 9, 3) := by decide +kernel
theorem dX12_way__224 : decode cX12_way_ 224 = .ok (.iload 8, 2) := by decide +kernel
theorem dX12_way__226 : decode cX12_way_ 226 = .ok (.iconst 3, 1) := by decide +kernel
theorem dX12_way__227 : decode cX12_way_ 227 = .ok (.iadd, 1) := by decide +kernel
theorem dX12_way__228 : decode cX12_way_ 228 = .ok (.iload_n 3, 1) := by decide +kernel
theorem dX12_way__229 : decode cX12_way_ 229 = .ok (.iastore, 1) := by decide +kernel
theorem dX12_way__230 : decode cX12_way_ 230 = .ok (.aload_n 0, 1) := by decide +kernel
theorem dX12_way__231 : decode cX12_way_ 231 = .ok (.getfield 9, 3) := by decide +kernel
theorem dX12_way__234 : decode cX12_way_ 234 = .ok (.iload 8, 2) := by decide +kernel
theorem dX12_way__236 : decode cX12_way_ 236 = .ok (.iconst 4, 1) := by decide +kernel
theorem dX12_way__237 : decode cX12_way_ 237 = .ok (.iadd, 1) := by decide +kernel
theorem dX12_way__238 : decode cX12_way_ 238 = .ok (.iload 4, 2) := by decide +kernel
theorem dX12_way__240 : decode cX12_way_ 240 = .ok (.iastore, 1) := by decide +kernel
theorem dX12_way__241 : decode cX12_way_ 241 = .ok (.aload_n 0, 1) := by decide +kernel
theorem dX12_way__242 : decode cX12_way_ 242 = .ok (.getfield 9, 3) := by decide +kernel
theorem dX12_way__245 : decode cX12_way_ 245 = .ok (.iconst 2, 1) := by decide +kernel
theorem dX12_way__246 : decode cX12_way_ 246 = .ok (.dup2, 1) := by decide +kernel
theorem dX12_way__247 : decode cX12_way_ 247 = .ok (.iaload, 1) := by decide +kernel
theorem dX12_way__248 : decode cX12_way_ 248 = .ok (.iconst 1, 1) := by decide +kernel
theorem dX12_way__249 : decode cX12_way_ 249 = .ok (.iadd, 1) := by decide +kernel
theorem dX12_way__250 : decode cX12_way_ 250 = .ok (.iastore, 1) := by decide +kernel
theorem dX12_way__251 : decode cX12_way_ 251 = .ok (.iload 7, 2) := by decide +kernel
theorem dX12_way__253 : decode cX12_way_ 253 = .ok (.ireturn, 1) := by decide +kernel
theorem dX12_way__173 : decode cX12_way_ 173 = .ok (.aload_n 0, 1) := by decide +kernel
theorem dX12_way__174 : decode cX12_way_ 174 = .ok (.getfield 9, 3) := by decide +kernel
theorem dX12_way__177 : decode cX12_way_ 177 = .ok (.iload 8, 2) := by decide +kernel
theorem dX12_way__179 : decode cX12_way_ 179 = .ok (.iload 9, 2) := by decide +kernel
theorem dX12_way__181 : decode cX12_way_ 181 = .ok (.iadd, 1) := by decide +kernel
theorem dX12_way__182 : decode cX12_way_ 182 = .ok (.iconst 0, 1) := by decide +kernel
theorem dX12_way__183 : decode cX12_way_ 183 = .ok (.iastore, 1) := by decide +kernel
theorem dX12_way__184 : decode cX12_way_ 184 = .ok (.iinc 9 1, 3) := by decide +kernel
theorem dX12_way__187 : decode cX12_way_ 187 = .ok (.goto (-22), 3) := by decide +kernel
theorem dX12_way__0 : decode cX12_way_ 0 = .ok (.iload_n 2, 1) := by decide +kernel
theorem dX12_way__1 : decode cX12_way_ 1 = .ok (.bipush 100, 2) := by decide +kernel
theorem dX12_way__3 : decode cX12_way_ 3 = .ok (.idiv, 1) := by decide +kernel
theorem dX12_way__4 : decode cX12_way_ 4 = .ok (.istore 5, 2) := by decide +kernel
theorem dX12_way__6 : decode cX12_way_ 6 = .ok (.iload_n 2, 1) := by decide +kernel
theorem dX12_way__7 : decode cX12_way_ 7 = .ok (.bipush 100, 2) := by decide +kernel
theorem dX12_way__9 : decode cX12_way_ 9 = .ok (.irem, 1) := by decide +kernel
theorem dX12_way__10 : decode cX12_way_ 10 = .ok (.istore 6, 2) := by decide +kernel
theorem dX12_way__12 : decode cX12_way_ 12 = .ok (.iload_n 1, 1) := by decide +kernel
theorem dX12_way__13 : decode cX12_way_ 13 = .ok (.i2l, 1) := by decide +kernel
theorem dX12_way__14 : decode cX12_way_ 14 = .ok (.lconst 0, 1) := by decide +kernel
theorem dX12_way__15 : decode cX12_way_ 15 = .ok (.ldc2_w 89, 3) := by decide +kernel
theorem dX12_way__18 : decode cX12_way_ 18 = .ok (.invokestatic 65, 3) := by decide +kernel
theorem dX12_way__21 : decode cX12_way_ 21 = .ok (.ifCond .eq 50, 3) := by decide +kernel
theorem dX12_way__24 : decode cX12_way_ 24 = .ok (.iload_n 2, 1) := by decide +kernel
theorem dX12_way__25 : decode cX12_way_ 25 = .ok (.ifCond .lt 46, 3) := by decide +kernel
theorem dX12_way__28 : decode cX12_way_ 28 = .ok (.aload_n 0, 1) := by decide +kernel
theorem dX12_way__29 : decode cX12_way_ 29 = .ok (.iload 5, 2) := by decide +kernel
theorem dX12_way__31 : decode cX12_way_ 31 = .ok (.invokevirtual 83, 3) := by decide +kernel
theorem dX12_way__34 : decode cX12_way_ 34 = .ok (.ifCond .eq 37, 3) := by decide +kernel
theorem dX12_way__37 : decode cX12_way_ 37 = .ok (.aload_n 0, 1) := by decide +kernel
theorem dX12_way__38 : decode cX12_way_ 38 = .ok (.iload 6, 2) := by decide +kernel
theorem dX12_way__40 : decode cX12_way_ 40 = .ok (.invokevirtual 83, 3) := by decide +kernel
theorem dX12_way__43 : decode cX12_way_ 43 = .ok (.ifCond .eq 28, 3) := by decide +kernel
theorem dX12_way__46 : decode cX12_way_ 46 = .ok (.iload_n 3, 1) := by decide +kernel
theorem dX12_way__47 : decode cX12_way_ 47 = .ok (.i2l, 1) := by decide +kernel
theorem dX12_way__48 : decode cX12_way_ 48 = .ok (.lconst 1, 1) := by decide +kernel
theorem dX12_way__49 : decode cX12_way_ 49 = .ok (.ldc2_w 91, 3) := by decide +kernel
theorem dX12_way__52 : decode cX12_way_ 52 = .ok (.invokestatic 65, 3) := by decide +kernel
theorem dX12_way__55 : decode cX12_way_ 55 = .ok (.ifCond .eq 16, 3) := by decide +kernel
theorem dX12_way__58 : decode cX12_way_ 58 = .ok (.iload 4, 2) := by decide +kernel
theorem dX12_way__60 : decode cX12_way_ 60 = .ok (.i2l, 1) := by decide +kernel
theorem dX12_way__61 : decode cX12_way_ 61 = .ok (.lconst 1, 1) := by decide +kernel
theorem dX12_way__62 : decode cX12_way_ 62 = .ok (.ldc2_w 78, 3) := by decide +kernel
theorem dX12_way__65 : decode cX12_way_ 65 = .ok (.invokestatic 65, 3) := by decide +kernel
theorem dX12_way__68 : decode cX12_way_ 68 = .ok (.ifCond .ne 9, 3) := by decide +kernel
theorem dX12_way__77 : decode cX12_way_ 77 = .ok (.aload_n 0, 1) := by decide +kernel
theorem dX12_way__78 : decode cX12_way_ 78 = .ok (.iload 5, 2) := by decide +kernel
theorem dX12_way__80 : decode cX12_way_ 80 = .ok (.invokevirtual 93, 3) := by decide +kernel
theorem dX12_way__83 : decode cX12_way_ 83 = .ok (.ifCond .ne 12, 3) := by decide +kernel
theorem dX12_way__86 : decode cX12_way_ 86 = .ok (.aload_n 0, 1) := by decide +kernel
theorem dX12_way__87 : decode cX12_way_ 87 = .ok (.iload 6, 2) := by decide +kernel
theorem dX12_way__89 : decode cX12_way_ 89 = .ok (.invokevirtual 96, 3) := by decide +kernel
theorem dX12_way__92 : decode cX12_way_ 92 = .ok (.ifCond .eq 9, 3) := by decide +kernel
theorem dX12_way__101 : decode cX12_way_ 101 = .ok (.aload_n 0, 1) := by decide +kernel
theorem dX12_way__102 : decode cX12_way_ 102 = .ok (.getfield 9, 3) := by decide +kernel
theorem dX12_way__105 : decode cX12_way_ 105 = .ok (.iload 5, 2) := by decide +kernel
theorem dX12_way__107 : decode cX12_way_ 107 = .ok (.invokestatic 71, 3) := by decide +kernel
theorem dX12_way__110 : decode cX12_way_ 110 = .ok (.iconst 2, 1) := by decide +kernel
theorem dX12_way__111 : decode cX12_way_ 111 = .ok (.iadd, 1) := by decide +kernel
theorem dX12_way__112 : decode cX12_way_ 112 = .ok (.iaload, 1) := by decide +kernel
theorem dX12_way__113 : decode cX12_way_ 113 = .ok (.aload_n 0, 1) := by decide +kernel
theorem dX12_way__114 : decode cX12_way_ 114 = .ok (.getfield 9, 3) := by decide +kernel
theorem dX12_way__117 : decode cX12_way_ 117 = .ok (.iload 6, 2) := by decide +kernel
theorem dX12_way__119 : decode cX12_way_ 119 = .ok (.invokestatic 71, 3) := by decide +kernel
theorem dX12_way__122 : decode cX12_way_ 122 = .ok (.iconst 2, 1) := by decide +kernel
theorem dX12_way__123 : decode cX12_way_ 123 = .ok (.iadd, 1) := by decide +kernel
theorem dX12_way__124 : decode cX12_way_ 124 = .ok (.iaload, 1) := by decide +kernel
theorem dX12_way__125 : decode cX12_way_ 125 = .ok (.if_icmp .gt 9, 3) := by decide +kernel
theorem dX12_way__134 : decode cX12_way_ 134 = .ok (.aload_n 0, 1) := by decide +kernel
theorem dX12_way__135 : decode cX12_way_ 135 = .ok (.getfield 9, 3) := by decide +kernel
theorem dX12_way__138 : decode cX12_way_ 138 = .ok (.iconst 2, 1) := by decide +kernel
theorem dX12_way__139 : decode cX12_way_ 139 = .ok (.iaload, 1) := by decide +kernel
theorem dX12_way__140 : decode cX12_way_ 140 = .ok (.istore 7, 2) := by decide +kernel
theorem dX12_way__142 : decode cX12_way_ 142 = .ok (.iload 7, 2) := by decide +kernel
theorem dX12_way__144 : decode cX12_way_ 144 = .ok (.bipush 24, 2) := by decide +kernel
theorem dX12_way__146 : decode cX12_way_ 146 = .ok (.if_icmp .ne 9, 3) := by decide +kernel
theorem dX12_way__149 : decode cX12_way_ 149 = .ok (.aload_n 0, 1) := by decide +kernel
theorem dX12_way__150 : decode cX12_way_ 150 = .ok (.iconst 4, 1) := by decide +kernel
theorem dX12_way__151 : decode cX12_way_ 151 = .ok (.invokevirtual 80, 3) := by decide +kernel
theorem dX12_way__154 : decode cX12_way_ 154 = .ok (.ireturn, 1) := by decide +kernel
theorem dX12_way__155 : decode cX12_way_ 155 = .ok (.iload 7, 2) := by decide +kernel
theorem dX12_way__157 : decode cX12_way_ 157 = .ok (.invokestatic 99, 3) := by decide +kernel
theorem dX12_way__160 : decode cX12_way_ 160 = .ok (.istore 8, 2) := by decide +kernel
theorem dX12_way__162 : decode cX12_way_ 162 = .ok (.iconst 0, 1) := by decide +kernel
theorem dX12_way__163 : decode cX12_way_ 163 = .ok (.istore 9, 2) := by decide +kernel
theorem dX12_way__128 : decode cX12_way_ 128 = .ok (.aload_n 0, 1) := by decide +kernel
theorem dX12_way__129 : decode cX12_way_ 129 = .ok (.iconst 3, 1) := by decide +kernel
theorem dX12_way__130 : decode cX12_way_ 130 = .ok (.invokevirtual 80, 3) := by decide +kernel
theorem dX12_way__133 : decode cX12_way_ 133 = .ok (.ireturn, 1) := by decide +kernel
def D_X12_way__71 (N : Nat) (h : mh_H) (l0 : Nat) : Option (Int32 × mh_H) :=
  kO h 12 l0 <|
  (D_X12_error N h l0 (1 : Int32)).bind fun q1 =>
  some (q1.1, q1.2)
set_option maxHeartbeats 4000000 in
set_option maxRecDepth 100000 in
theorem T_X12_way__71 {P : mh_E → Prop} {N d : Nat} (hd : 4 ≤ d) {z : (Int32 × mh_H)} {h : mh_H} {l0 : Nat} (hq : D_X12_way__71 N h l0 = some z) : mh_go P d mX12_way_ 71 [some (.ref l0), none, none, none, none, none, none, none, none, none] [] h (some (.int z.1)) z.2 := by
  unfold D_X12_way__71 at hq
  refine st_aload_n (pc := 71) dX12_way__71 rfl ?_
  refine st_iconst (pc := 72) (v := (1 : Int32)) dX12_way__72 rfl ?_
  obtain ⟨⟨hbq1, hkq1⟩, hq⟩ := mh_oi hq
  obtain ⟨q1, e1, hq⟩ := mh_ob hq
  refine st_invV (pc := 73) (ci := 12) (vs := [.int (1 : Int32)]) (rest := []) (st2 := [.int q1.1]) dX12_way__73 okX12_error (by decide) hkq1 hbq1 wd_1247 wd_1249 wp_34 pdX12_error rfl rfl rfl rfl (Nat.le_trans (by decide) hd) (Nat.le_of_ble_eq_true rfl) (T_X12_error (Nat.le_refl _) e1) rfl ?_
  exact bd_iret (pc := 76) hq dX12_way__76 rfl
def D_X12_way__95 (N : Nat) (h : mh_H) (l0 : Nat) : Option (Int32 × mh_H) :=
  kO h 12 l0 <|
  (D_X12_error N h l0 (5 : Int32)).bind fun q1 =>
  some (q1.1, q1.2)
set_option maxHeartbeats 4000000 in
set_option maxRecDepth 100000 in
theorem T_X12_way__95 {P : mh_E → Prop} {N d : Nat} (hd : 4 ≤ d) {z : (Int32 × mh_H)} {h : mh_H} {l0 : Nat} (hq : D_X12_way__95 N h l0 = some z) : mh_go P d mX12_way_ 95 [some (.ref l0), none, none, none, none, none, none, none, none, none] [] h (some (.int z.1)) z.2 := by
  unfold D_X12_way__95 at hq
  refine st_aload_n (pc := 95) dX12_way__95 rfl ?_
  refine st_iconst (pc := 96) (v := (5 : Int32)) dX12_way__96 rfl ?_
  obtain ⟨⟨hbq1, hkq1⟩, hq⟩ := mh_oi hq
  obtain ⟨q1, e1, hq⟩ := mh_ob hq
  refine st_invV (pc := 97) (ci := 12) (vs := [.int (5 : Int32)]) (rest := []) (st2 := [.int q1.1]) dX12_way__97 okX12_error (by decide) hkq1 hbq1 wd_1247 wd_1249 wp_34 pdX12_error rfl rfl rfl rfl (Nat.le_trans (by decide) hd) (Nat.le_of_ble_eq_true rfl) (T_X12_error (Nat.le_refl _) e1) rfl ?_
  exact bd_iret (pc := 100) hq dX12_way__100 rfl
def D_X12_way__165 (N : Nat) : Nat → mh_H → Nat → Int32 → Int32 → Int32 → Int32 → Int32 → Int32 → Int32 → Int32 → Option (Int32 × mh_H)
  | 0, _, _, _, _, _, _, _, _, _, _ => none
  | F + 1, h, l0, l1, l3, l4, l5, l6, l7, l8, l9 =>
    if (215 : Int32) ≤ l9 then ((gR h 12 l0 0).bind fun v1 =>
    (uI h v1 l8 l1).bind fun h2 =>
    (gR h2 12 l0 0).bind fun v3 =>
    (uI h2 v3 (l8 + (1 : Int32)) l5).bind fun h4 =>
    (gR h4 12 l0 0).bind fun v5 =>
    (uI h4 v5 (l8 + (2 : Int32)) l6).bind fun h6 =>
    (gR h6 12 l0 0).bind fun v7 =>
    (uI h6 v7 (l8 + (3 : Int32)) l3).bind fun h8 =>
    (gR h8 12 l0 0).bind fun v9 =>
    (uI h8 v9 (l8 + (4 : Int32)) l4).bind fun h10 =>
    (gR h10 12 l0 0).bind fun v11 =>
    (aI h10 v11 (2 : Int32)).bind fun v12 =>
    (uI h10 v11 (2 : Int32) (v12 + (1 : Int32))).bind fun h13 =>
    some (l7, h13))
    else ((gR h 12 l0 0).bind fun v1 =>
    (uI h v1 (l8 + l9) (0 : Int32)).bind fun h2 =>
    (D_X12_way__165 N F) h2 l0 l1 l3 l4 l5 l6 l7 l8 (l9 + Int32.ofInt (1)))
set_option maxHeartbeats 4000000 in
set_option maxRecDepth 100000 in
theorem T_X12_way__165 {P : mh_E → Prop} {N d : Nat} (hd : 4 ≤ d) {z : (Int32 × mh_H)} : ∀ (F : Nat) (h : mh_H) (l0 : Nat) (l1 : Int32) (l3 : Int32) (l4 : Int32) (l5 : Int32) (l6 : Int32) (l7 : Int32) (l8 : Int32) (l9 : Int32), D_X12_way__165 N F h l0 l1 l3 l4 l5 l6 l7 l8 l9 = some z → mh_go P d mX12_way_ 165 [some (.ref l0), some (.int l1), none, some (.int l3), some (.int l4), some (.int l5), some (.int l6), some (.int l7), some (.int l8), some (.int l9)] [] h (some (.int z.1)) z.2 := by
  intro F
  induction F with
  | zero => intro h l0 l1 l3 l4 l5 l6 l7 l8 l9 hq; rw [D_X12_way__165] at hq; cases hq
  | succ F ih =>
    intro h l0 l1 l3 l4 l5 l6 l7 l8 l9 hq
    rw [D_X12_way__165] at hq
    refine st_iload (pc := 165) dX12_way__165 rfl ?_
    refine st_sipush (pc := 167) (v := (215 : Int32)) dX12_way__167 (by decide) ?_
    refine bd_icmp_ge (pc := 170) (tgt := 190) hq dX12_way__170 (by decide) (fun _ hq => ?_) (fun _ hq => ?_)
    ·
      refine st_aload_n (pc := 190) dX12_way__190 rfl ?_
      refine bd_getr (pc := 191) hq dX12_way__191 fl_12_9_12 rfl (fun v1 hq => ?_)
      refine st_iload (pc := 194) dX12_way__194 rfl ?_
      refine st_iload_n (pc := 196) dX12_way__196 rfl ?_
      refine bd_iast (pc := 197) hq dX12_way__197 (fun h2 hq => ?_)
      refine st_aload_n (pc := 198) dX12_way__198 rfl ?_
      refine bd_getr (pc := 199) hq dX12_way__199 fl_12_9_12 rfl (fun v3 hq => ?_)
      refine st_iload (pc := 202) dX12_way__202 rfl ?_
      refine st_iconst (pc := 204) (v := (1 : Int32)) dX12_way__204 rfl ?_
      refine st_iadd (pc := 205) dX12_way__205 ?_
      refine st_iload (pc := 206) dX12_way__206 rfl ?_
      refine bd_iast (pc := 208) hq dX12_way__208 (fun h4 hq => ?_)
      refine st_aload_n (pc := 209) dX12_way__209 rfl ?_
      refine bd_getr (pc := 210) hq dX12_way__210 fl_12_9_12 rfl (fun v5 hq => ?_)
      refine st_iload (pc := 213) dX12_way__213 rfl ?_
      refine st_iconst (pc := 215) (v := (2 : Int32)) dX12_way__215 rfl ?_
      refine st_iadd (pc := 216) dX12_way__216 ?_
      refine st_iload (pc := 217) dX12_way__217 rfl ?_
      refine bd_iast (pc := 219) hq dX12_way__219 (fun h6 hq => ?_)
      refine st_aload_n (pc := 220) dX12_way__220 rfl ?_
      refine bd_getr (pc := 221) hq dX12_way__221 fl_12_9_12 rfl (fun v7 hq => ?_)
      refine st_iload (pc := 224) dX12_way__224 rfl ?_
      refine st_iconst (pc := 226) (v := (3 : Int32)) dX12_way__226 rfl ?_
      refine st_iadd (pc := 227) dX12_way__227 ?_
      refine st_iload_n (pc := 228) dX12_way__228 rfl ?_
      refine bd_iast (pc := 229) hq dX12_way__229 (fun h8 hq => ?_)
      refine st_aload_n (pc := 230) dX12_way__230 rfl ?_
      refine bd_getr (pc := 231) hq dX12_way__231 fl_12_9_12 rfl (fun v9 hq => ?_)
      refine st_iload (pc := 234) dX12_way__234 rfl ?_
      refine st_iconst (pc := 236) (v := (4 : Int32)) dX12_way__236 rfl ?_
      refine st_iadd (pc := 237) dX12_way__237 ?_
      refine st_iload (pc := 238) dX12_way__238 rfl ?_
      refine bd_iast (pc := 240) hq dX12_way__240 (fun h10 hq => ?_)
      refine st_aload_n (pc := 241) dX12_way__241 rfl ?_
      refine bd_getr (pc := 242) hq dX12_way__242 fl_12_9_12 rfl (fun v11 hq => ?_)
      refine st_iconst (pc := 245) (v := (2 : Int32)) dX12_way__245 rfl ?_
      refine st_dup2 (pc := 246) dX12_way__246 rfl rfl ?_
      refine bd_iald (pc := 247) hq dX12_way__247 (fun v12 hq => ?_)
      refine st_iconst (pc := 248) (v := (1 : Int32)) dX12_way__248 rfl ?_
      refine st_iadd (pc := 249) dX12_way__249 ?_
      refine bd_iast (pc := 250) hq dX12_way__250 (fun h13 hq => ?_)
      refine st_iload (pc := 251) dX12_way__251 rfl ?_
      exact bd_iret (pc := 253) hq dX12_way__253 rfl
    ·
      refine st_aload_n (pc := 173) dX12_way__173 rfl ?_
      refine bd_getr (pc := 174) hq dX12_way__174 fl_12_9_12 rfl (fun v1 hq => ?_)
      refine st_iload (pc := 177) dX12_way__177 rfl ?_
      refine st_iload (pc := 179) dX12_way__179 rfl ?_
      refine st_iadd (pc := 181) dX12_way__181 ?_
      refine st_iconst (pc := 182) (v := (0 : Int32)) dX12_way__182 rfl ?_
      refine bd_iast (pc := 183) hq dX12_way__183 (fun h2 hq => ?_)
      refine st_iinc (pc := 184) (lv' := [some (.ref l0), some (.int l1), none, some (.int l3), some (.int l4), some (.int l5), some (.int l6), some (.int l7), some (.int l8), some (.int (l9 + Int32.ofInt (1)))]) dX12_way__184 rfl rfl (by decide) rfl ?_
      refine st_goto (pc := 187) (tgt := 165) dX12_way__187 (by decide) ?_
      exact ih _ _ _ _ _ _ _ _ _ _ hq
def D_X12_way_ (N : Nat) (h : mh_H) (l0 : Nat) (l1 : Int32) (l2 : Int32) (l3 : Int32) (l4 : Int32) : Option (Int32 × mh_H) :=
  dN (100 : Int32) <|
  dN (100 : Int32) <|
  (D_X12_in N h l1.toInt64 (0 : Int64) (5 : Int64)).bind fun q1 =>
  if q1.1 = 0 then (D_X12_way__71 N q1.2 l0)
  else (if l2 < 0 then (D_X12_way__71 N q1.2 l0)
  else (kO q1.2 12 l0 <|
  (D_X12_isJoint N q1.2 l0 (l2 / (100 : Int32))).bind fun q2 =>
  if q2.1 = 0 then (D_X12_way__71 N q2.2 l0)
  else (kO q2.2 12 l0 <|
  (D_X12_isJoint N q2.2 l0 (l2 - l2 / (100 : Int32) * (100 : Int32))).bind fun q3 =>
  if q3.1 = 0 then (D_X12_way__71 N q3.2 l0)
  else ((D_X12_in N q3.2 l3.toInt64 (1 : Int64) (20 : Int64)).bind fun q4 =>
  if q4.1 = 0 then (D_X12_way__71 N q4.2 l0)
  else ((D_X12_in N q4.2 l4.toInt64 (1 : Int64) (99 : Int64)).bind fun q5 =>
  if q5.1 = 0 then (D_X12_way__71 N q5.2 l0)
  else (kO q5.2 12 l0 <|
  (D_X12_isEnd N q5.2 l0 (l2 / (100 : Int32))).bind fun q6 =>
  if q6.1 = 0 then (kO q6.2 12 l0 <|
  (D_X12_isHole N q6.2 l0 (l2 - l2 / (100 : Int32) * (100 : Int32))).bind fun q7 =>
  if q7.1 = 0 then ((gR q7.2 12 l0 0).bind fun v8 =>
  (D_X12_joint N q7.2 (l2 / (100 : Int32))).bind fun q9 =>
  (aI q9.2 v8 (q9.1 + (2 : Int32))).bind fun v10 =>
  (gR q9.2 12 l0 0).bind fun v11 =>
  (D_X12_joint N q9.2 (l2 - l2 / (100 : Int32) * (100 : Int32))).bind fun q12 =>
  (aI q12.2 v11 (q12.1 + (2 : Int32))).bind fun v13 =>
  if v13 < v10 then ((gR q12.2 12 l0 0).bind fun v14 =>
  (aI q12.2 v14 (2 : Int32)).bind fun v15 =>
  if v15 = (24 : Int32) then (kO q12.2 12 l0 <|
  (D_X12_error N q12.2 l0 (4 : Int32)).bind fun q16 =>
  some (q16.1, q16.2))
  else ((D_X12_way N q12.2 v15).bind fun q16 =>
  D_X12_way__165 N N q16.2 l0 l1 l3 l4 (l2 / (100 : Int32)) (l2 - l2 / (100 : Int32) * (100 : Int32)) v15 q16.1 (0 : Int32)))
  else (kO q12.2 12 l0 <|
  (D_X12_error N q12.2 l0 (3 : Int32)).bind fun q14 =>
  some (q14.1, q14.2)))
  else (D_X12_way__95 N q7.2 l0))
  else (D_X12_way__95 N q6.2 l0)))))))
set_option maxHeartbeats 4000000 in
set_option maxRecDepth 100000 in
theorem T_X12_way_ {P : mh_E → Prop} {N d : Nat} (hd : 4 ≤ d) {z : (Int32 × mh_H)} {h : mh_H} {l0 : Nat} {l1 : Int32} {l2 : Int32} {l3 : Int32} {l4 : Int32} (hq : D_X12_way_ N h l0 l1 l2 l3 l4 = some z) : mh_go P d mX12_way_ 0 [some (.ref l0), some (.int l1), some (.int l2), some (.int l3), some (.int l4), none, none, none, none, none] [] h (some (.int z.1)) z.2 := by
  unfold D_X12_way_ at hq
  refine st_iload_n (pc := 0) dX12_way__0 rfl ?_
  refine st_bipush (pc := 1) (v := (100 : Int32)) dX12_way__1 (by decide) ?_
  refine bd_idiv (pc := 3) hq dX12_way__3 (fun hq => ?_)
  refine st_istore (pc := 4) (lv' := [some (.ref l0), some (.int l1), some (.int l2), some (.int l3), some (.int l4), some (.int (l2 / (100 : Int32))), none, none, none, none]) dX12_way__4 rfl (by decide) rfl ?_
  refine st_iload_n (pc := 6) dX12_way__6 rfl ?_
  refine st_bipush (pc := 7) (v := (100 : Int32)) dX12_way__7 (by decide) ?_
  refine bd_irem (pc := 9) hq dX12_way__9 (fun hq => ?_)
  refine st_istore (pc := 10) (lv' := [some (.ref l0), some (.int l1), some (.int l2), some (.int l3), some (.int l4), some (.int (l2 / (100 : Int32))), some (.int (l2 - l2 / (100 : Int32) * (100 : Int32))), none, none, none]) dX12_way__10 rfl (by decide) rfl ?_
  refine st_iload_n (pc := 12) dX12_way__12 rfl ?_
  refine st_i2l (pc := 13) dX12_way__13 ?_
  refine st_lconst (pc := 14) (v := 0) dX12_way__14 rfl ?_
  refine st_ldc2 (pc := 15) (v := (5 : Int64)) dX12_way__15 wd_1268 ?_
  obtain ⟨q1, e1, hq⟩ := mh_ob hq
  refine st_invS (pc := 18) (Y := mX12_in) (vs := [.long l1.toInt64, .long (0 : Int64), .long (5 : Int64)]) (rest := []) (st2 := [.int q1.1]) dX12_way__18 okX12_in wd_1243 wd_1244 pdX12_in rfl rfl rfl rfl (Nat.le_trans (by decide) hd) (Nat.le_of_ble_eq_true rfl) (T_X12_in (Nat.le_refl _) e1) rfl ?_
  refine bd_if_eq (pc := 21) (tgt := 71) hq dX12_way__21 (by decide) (fun _ hq => ?_) (fun _ hq => ?_)
  ·
    refine st_lesS (lv' := [some (.ref l0), none, none, none, none, none, none, none, none, none]) ⟨Or.inr rfl, Or.inl rfl, Or.inl rfl, Or.inl rfl, Or.inl rfl, Or.inl rfl, Or.inl rfl, Or.inr rfl, Or.inr rfl, Or.inr rfl, trivial⟩ ?_
    exact T_X12_way__71 hd hq
  ·
    refine st_iload_n (pc := 24) dX12_way__24 rfl ?_
    refine bd_if_lt (pc := 25) (tgt := 71) hq dX12_way__25 (by decide) (fun _ hq => ?_) (fun _ hq => ?_)
    ·
      refine st_lesS (lv' := [some (.ref l0), none, none, none, none, none, none, none, none, none]) ⟨Or.inr rfl, Or.inl rfl, Or.inl rfl, Or.inl rfl, Or.inl rfl, Or.inl rfl, Or.inl rfl, Or.inr rfl, Or.inr rfl, Or.inr rfl, trivial⟩ ?_
      exact T_X12_way__71 hd hq
    ·
      refine st_aload_n (pc := 28) dX12_way__28 rfl ?_
      refine st_iload (pc := 29) dX12_way__29 rfl ?_
      obtain ⟨⟨hbq2, hkq2⟩, hq⟩ := mh_oi hq
      obtain ⟨q2, e2, hq⟩ := mh_ob hq
      refine st_invV (pc := 31) (ci := 12) (vs := [.int (l2 / (100 : Int32))]) (rest := []) (st2 := [.int q2.1]) dX12_way__31 okX12_isJoint (by decide) hkq2 hbq2 wd_1259 wd_1261 wp_35 pdX12_isJoint rfl rfl rfl rfl (Nat.le_trans (by decide) hd) (Nat.le_of_ble_eq_true rfl) (T_X12_isJoint (Nat.le_refl _) e2) rfl ?_
      refine bd_if_eq (pc := 34) (tgt := 71) hq dX12_way__34 (by decide) (fun _ hq => ?_) (fun _ hq => ?_)
      ·
        refine st_lesS (lv' := [some (.ref l0), none, none, none, none, none, none, none, none, none]) ⟨Or.inr rfl, Or.inl rfl, Or.inl rfl, Or.inl rfl, Or.inl rfl, Or.inl rfl, Or.inl rfl, Or.inr rfl, Or.inr rfl, Or.inr rfl, trivial⟩ ?_
        exact T_X12_way__71 hd hq
      ·
        refine st_aload_n (pc := 37) dX12_way__37 rfl ?_
        refine st_iload (pc := 38) dX12_way__38 rfl ?_
        obtain ⟨⟨hbq3, hkq3⟩, hq⟩ := mh_oi hq
        obtain ⟨q3, e3, hq⟩ := mh_ob hq
        refine st_invV (pc := 40) (ci := 12) (vs := [.int (l2 - l2 / (100 : Int32) * (100 : Int32))]) (rest := []) (st2 := [.int q3.1]) dX12_way__40 okX12_isJoint (by decide) hkq3 hbq3 wd_1259 wd_1261 wp_35 pdX12_isJoint rfl rfl rfl rfl (Nat.le_trans (by decide) hd) (Nat.le_of_ble_eq_true rfl) (T_X12_isJoint (Nat.le_refl _) e3) rfl ?_
        refine bd_if_eq (pc := 43) (tgt := 71) hq dX12_way__43 (by decide) (fun _ hq => ?_) (fun _ hq => ?_)
        ·
          refine st_lesS (lv' := [some (.ref l0), none, none, none, none, none, none, none, none, none]) ⟨Or.inr rfl, Or.inl rfl, Or.inl rfl, Or.inl rfl, Or.inl rfl, Or.inl rfl, Or.inl rfl, Or.inr rfl, Or.inr rfl, Or.inr rfl, trivial⟩ ?_
          exact T_X12_way__71 hd hq
        ·
          refine st_iload_n (pc := 46) dX12_way__46 rfl ?_
          refine st_i2l (pc := 47) dX12_way__47 ?_
          refine st_lconst (pc := 48) (v := 1) dX12_way__48 rfl ?_
          refine st_ldc2 (pc := 49) (v := (20 : Int64)) dX12_way__49 wd_1269 ?_
          obtain ⟨q4, e4, hq⟩ := mh_ob hq
          refine st_invS (pc := 52) (Y := mX12_in) (vs := [.long l3.toInt64, .long (1 : Int64), .long (20 : Int64)]) (rest := []) (st2 := [.int q4.1]) dX12_way__52 okX12_in wd_1243 wd_1244 pdX12_in rfl rfl rfl rfl (Nat.le_trans (by decide) hd) (Nat.le_of_ble_eq_true rfl) (T_X12_in (Nat.le_refl _) e4) rfl ?_
          refine bd_if_eq (pc := 55) (tgt := 71) hq dX12_way__55 (by decide) (fun _ hq => ?_) (fun _ hq => ?_)
          ·
            refine st_lesS (lv' := [some (.ref l0), none, none, none, none, none, none, none, none, none]) ⟨Or.inr rfl, Or.inl rfl, Or.inl rfl, Or.inl rfl, Or.inl rfl, Or.inl rfl, Or.inl rfl, Or.inr rfl, Or.inr rfl, Or.inr rfl, trivial⟩ ?_
            exact T_X12_way__71 hd hq
          ·
            refine st_iload (pc := 58) dX12_way__58 rfl ?_
            refine st_i2l (pc := 60) dX12_way__60 ?_
            refine st_lconst (pc := 61) (v := 1) dX12_way__61 rfl ?_
            refine st_ldc2 (pc := 62) (v := (99 : Int64)) dX12_way__62 wd_1246 ?_
            obtain ⟨q5, e5, hq⟩ := mh_ob hq
            refine st_invS (pc := 65) (Y := mX12_in) (vs := [.long l4.toInt64, .long (1 : Int64), .long (99 : Int64)]) (rest := []) (st2 := [.int q5.1]) dX12_way__65 okX12_in wd_1243 wd_1244 pdX12_in rfl rfl rfl rfl (Nat.le_trans (by decide) hd) (Nat.le_of_ble_eq_true rfl) (T_X12_in (Nat.le_refl _) e5) rfl ?_
            refine bd_if_ne (pc := 68) (tgt := 77) hq dX12_way__68 (by decide) (fun _ hq => ?_) (fun _ hq => ?_)
            ·
              refine st_lesS (lv' := [some (.ref l0), none, none, none, none, none, none, none, none, none]) ⟨Or.inr rfl, Or.inl rfl, Or.inl rfl, Or.inl rfl, Or.inl rfl, Or.inl rfl, Or.inl rfl, Or.inr rfl, Or.inr rfl, Or.inr rfl, trivial⟩ ?_
              exact T_X12_way__71 hd hq
            ·
              refine st_aload_n (pc := 77) dX12_way__77 rfl ?_
              refine st_iload (pc := 78) dX12_way__78 rfl ?_
              obtain ⟨⟨hbq6, hkq6⟩, hq⟩ := mh_oi hq
              obtain ⟨q6, e6, hq⟩ := mh_ob hq
              refine st_invV (pc := 80) (ci := 12) (vs := [.int (l2 / (100 : Int32))]) (rest := []) (st2 := [.int q6.1]) dX12_way__80 okX12_isEnd (by decide) hkq6 hbq6 wd_1270 wd_1272 wp_36 pdX12_isEnd rfl rfl rfl rfl (Nat.le_trans (by decide) hd) (Nat.le_of_ble_eq_true rfl) (T_X12_isEnd (Nat.le_refl _) e6) rfl ?_
              refine bd_if_ne (pc := 83) (tgt := 95) hq dX12_way__83 (by decide) (fun _ hq => ?_) (fun _ hq => ?_)
              ·
                refine st_aload_n (pc := 86) dX12_way__86 rfl ?_
                refine st_iload (pc := 87) dX12_way__87 rfl ?_
                obtain ⟨⟨hbq7, hkq7⟩, hq⟩ := mh_oi hq
                obtain ⟨q7, e7, hq⟩ := mh_ob hq
                refine st_invV (pc := 89) (ci := 12) (vs := [.int (l2 - l2 / (100 : Int32) * (100 : Int32))]) (rest := []) (st2 := [.int q7.1]) dX12_way__89 okX12_isHole (by decide) hkq7 hbq7 wd_1278 wd_1280 wp_38 pdX12_isHole rfl rfl rfl rfl (Nat.le_trans (by decide) hd) (Nat.le_of_ble_eq_true rfl) (T_X12_isHole (Nat.le_refl _) e7) rfl ?_
                refine bd_if_eq (pc := 92) (tgt := 101) hq dX12_way__92 (by decide) (fun _ hq => ?_) (fun _ hq => ?_)
                ·
                  refine st_aload_n (pc := 101) dX12_way__101 rfl ?_
                  refine bd_getr (pc := 102) hq dX12_way__102 fl_12_9_12 rfl (fun v8 hq => ?_)
                  refine st_iload (pc := 105) dX12_way__105 rfl ?_
                  obtain ⟨q9, e9, hq⟩ := mh_ob hq
                  refine st_invS (pc := 107) (Y := mX12_joint) (vs := [.int (l2 / (100 : Int32))]) (rest := [.ref v8]) (st2 := [.int q9.1, .ref v8]) dX12_way__107 okX12_joint wd_1252 wd_1253 pdX12_joint rfl rfl rfl rfl (Nat.le_trans (by decide) hd) (Nat.le_of_ble_eq_true rfl) (T_X12_joint (Nat.le_refl _) e9) rfl ?_
                  refine st_iconst (pc := 110) (v := (2 : Int32)) dX12_way__110 rfl ?_
                  refine st_iadd (pc := 111) dX12_way__111 ?_
                  refine bd_iald (pc := 112) hq dX12_way__112 (fun v10 hq => ?_)
                  refine st_aload_n (pc := 113) dX12_way__113 rfl ?_
                  refine bd_getr (pc := 114) hq dX12_way__114 fl_12_9_12 rfl (fun v11 hq => ?_)
                  refine st_iload (pc := 117) dX12_way__117 rfl ?_
                  obtain ⟨q12, e12, hq⟩ := mh_ob hq
                  refine st_invS (pc := 119) (Y := mX12_joint) (vs := [.int (l2 - l2 / (100 : Int32) * (100 : Int32))]) (rest := [.ref v11, .int v10]) (st2 := [.int q12.1, .ref v11, .int v10]) dX12_way__119 okX12_joint wd_1252 wd_1253 pdX12_joint rfl rfl rfl rfl (Nat.le_trans (by decide) hd) (Nat.le_of_ble_eq_true rfl) (T_X12_joint (Nat.le_refl _) e12) rfl ?_
                  refine st_iconst (pc := 122) (v := (2 : Int32)) dX12_way__122 rfl ?_
                  refine st_iadd (pc := 123) dX12_way__123 ?_
                  refine bd_iald (pc := 124) hq dX12_way__124 (fun v13 hq => ?_)
                  refine bd_icmp_gt (pc := 125) (tgt := 134) hq dX12_way__125 (by decide) (fun _ hq => ?_) (fun _ hq => ?_)
                  ·
                    refine st_aload_n (pc := 134) dX12_way__134 rfl ?_
                    refine bd_getr (pc := 135) hq dX12_way__135 fl_12_9_12 rfl (fun v14 hq => ?_)
                    refine st_iconst (pc := 138) (v := (2 : Int32)) dX12_way__138 rfl ?_
                    refine bd_iald (pc := 139) hq dX12_way__139 (fun v15 hq => ?_)
                    refine st_istore (pc := 140) (lv' := [some (.ref l0), some (.int l1), some (.int l2), some (.int l3), some (.int l4), some (.int (l2 / (100 : Int32))), some (.int (l2 - l2 / (100 : Int32) * (100 : Int32))), some (.int v15), none, none]) dX12_way__140 rfl (by decide) rfl ?_
                    refine st_iload (pc := 142) dX12_way__142 rfl ?_
                    refine st_bipush (pc := 144) (v := (24 : Int32)) dX12_way__144 (by decide) ?_
                    refine bd_icmp_ne (pc := 146) (tgt := 155) hq dX12_way__146 (by decide) (fun _ hq => ?_) (fun _ hq => ?_)
                    ·
                      refine st_aload_n (pc := 149) dX12_way__149 rfl ?_
                      refine st_iconst (pc := 150) (v := (4 : Int32)) dX12_way__150 rfl ?_
                      obtain ⟨⟨hbq16, hkq16⟩, hq⟩ := mh_oi hq
                      obtain ⟨q16, e16, hq⟩ := mh_ob hq
                      refine st_invV (pc := 151) (ci := 12) (vs := [.int (4 : Int32)]) (rest := []) (st2 := [.int q16.1]) dX12_way__151 okX12_error (by decide) hkq16 hbq16 wd_1247 wd_1249 wp_34 pdX12_error rfl rfl rfl rfl (Nat.le_trans (by decide) hd) (Nat.le_of_ble_eq_true rfl) (T_X12_error (Nat.le_refl _) e16) rfl ?_
                      exact bd_iret (pc := 154) hq dX12_way__154 rfl
                    ·
                      refine st_iload (pc := 155) dX12_way__155 rfl ?_
                      obtain ⟨q16, e16, hq⟩ := mh_ob hq
                      refine st_invS (pc := 157) (Y := mX12_way) (vs := [.int v15]) (rest := []) (st2 := [.int q16.1]) dX12_way__157 okX12_way wd_1282 wd_1283 pdX12_way rfl rfl rfl rfl (Nat.le_trans (by decide) hd) (Nat.le_of_ble_eq_true rfl) (T_X12_way (Nat.le_refl _) e16) rfl ?_
                      refine st_istore (pc := 160) (lv' := [some (.ref l0), some (.int l1), some (.int l2), some (.int l3), some (.int l4), some (.int (l2 / (100 : Int32))), some (.int (l2 - l2 / (100 : Int32) * (100 : Int32))), some (.int v15), some (.int q16.1), none]) dX12_way__160 rfl (by decide) rfl ?_
                      refine st_iconst (pc := 162) (v := (0 : Int32)) dX12_way__162 rfl ?_
                      refine st_istore (pc := 163) (lv' := [some (.ref l0), some (.int l1), some (.int l2), some (.int l3), some (.int l4), some (.int (l2 / (100 : Int32))), some (.int (l2 - l2 / (100 : Int32) * (100 : Int32))), some (.int v15), some (.int q16.1), some (.int (0 : Int32))]) dX12_way__163 rfl (by decide) rfl ?_
                      refine st_lesS (lv' := [some (.ref l0), some (.int l1), none, some (.int l3), some (.int l4), some (.int (l2 / (100 : Int32))), some (.int (l2 - l2 / (100 : Int32) * (100 : Int32))), some (.int v15), some (.int q16.1), some (.int (0 : Int32))]) ⟨Or.inr rfl, Or.inr rfl, Or.inl rfl, Or.inr rfl, Or.inr rfl, Or.inr rfl, Or.inr rfl, Or.inr rfl, Or.inr rfl, Or.inr rfl, trivial⟩ ?_
                      exact T_X12_way__165 hd N _ _ _ _ _ _ _ _ _ _ hq
                  ·
                    refine st_aload_n (pc := 128) dX12_way__128 rfl ?_
                    refine st_iconst (pc := 129) (v := (3 : Int32)) dX12_way__129 rfl ?_
                    obtain ⟨⟨hbq14, hkq14⟩, hq⟩ := mh_oi hq
                    obtain ⟨q14, e14, hq⟩ := mh_ob hq
                    refine st_invV (pc := 130) (ci := 12) (vs := [.int (3 : Int32)]) (rest := []) (st2 := [.int q14.1]) dX12_way__130 okX12_error (by decide) hkq14 hbq14 wd_1247 wd_1249 wp_34 pdX12_error rfl rfl rfl rfl (Nat.le_trans (by decide) hd) (Nat.le_of_ble_eq_true rfl) (T_X12_error (Nat.le_refl _) e14) rfl ?_
                    exact bd_iret (pc := 133) hq dX12_way__133 rfl
                ·
                  refine st_lesS (lv' := [some (.ref l0), none, none, none, none, none, none, none, none, none]) ⟨Or.inr rfl, Or.inl rfl, Or.inl rfl, Or.inl rfl, Or.inl rfl, Or.inl rfl, Or.inl rfl, Or.inr rfl, Or.inr rfl, Or.inr rfl, trivial⟩ ?_
                  exact T_X12_way__95 hd hq
              ·
                refine st_lesS (lv' := [some (.ref l0), none, none, none, none, none, none, none, none, none]) ⟨Or.inr rfl, Or.inl rfl, Or.inl rfl, Or.inl rfl, Or.inl rfl, Or.inl rfl, Or.inl rfl, Or.inr rfl, Or.inr rfl, Or.inr rfl, trivial⟩ ?_
                exact T_X12_way__95 hd hq
-- HoleWaterModel.above(I)I
theorem dX12_above_0 : decode cX12_above 0 = .ok (.iload_n 0, 1) := by decide +kernel
theorem dX12_above_1 : decode cX12_above 1 = .ok (.ifCond .ne 7, 3) := by decide +kernel
theorem dX12_above_4 : decode cX12_above 4 = .ok (.iconst (-1), 1) := by decide +kernel
theorem dX12_above_5 : decode cX12_above 5 = .ok (.goto 22, 3) := by decide +kernel
theorem dX12_above_27 : decode cX12_above 27 = .ok (.ireturn, 1) := by decide +kernel
theorem dX12_above_8 : decode cX12_above 8 = .ok (.iload_n 0, 1) := by decide +kernel
theorem dX12_above_9 : decode cX12_above 9 = .ok (.iconst 3, 1) := by decide +kernel
theorem dX12_above_10 : decode cX12_above 10 = .ok (.if_icmp .ne 7, 3) := by decide +kernel
theorem dX12_above_13 : decode cX12_above 13 = .ok (.iconst 1, 1) := by decide +kernel
theorem dX12_above_14 : decode cX12_above 14 = .ok (.goto 13, 3) := by decide +kernel
theorem dX12_above_17 : decode cX12_above 17 = .ok (.iload_n 0, 1) := by decide +kernel
theorem dX12_above_18 : decode cX12_above 18 = .ok (.iconst 5, 1) := by decide +kernel
theorem dX12_above_19 : decode cX12_above 19 = .ok (.if_icmp .ne 7, 3) := by decide +kernel
theorem dX12_above_22 : decode cX12_above 22 = .ok (.iconst 2, 1) := by decide +kernel
theorem dX12_above_23 : decode cX12_above 23 = .ok (.goto 4, 3) := by decide +kernel
theorem dX12_above_26 : decode cX12_above 26 = .ok (.iconst 0, 1) := by decide +kernel
def D_X12_above (N : Nat) (h : mh_H) (l0 : Int32) : Option (Int32 × mh_H) :=
  if l0 = 0 then (some ((-1 : Int32), h))
  else (if l0 = (3 : Int32) then (some ((1 : Int32), h))
  else (if l0 = (5 : Int32) then (some ((2 : Int32), h))
  else (some ((0 : Int32), h))))
set_option maxHeartbeats 4000000 in
set_option maxRecDepth 100000 in
theorem T_X12_above {P : mh_E → Prop} {N d : Nat} (hd : 1 ≤ d) {z : (Int32 × mh_H)} {h : mh_H} {l0 : Int32} (hq : D_X12_above N h l0 = some z) : mh_go P d mX12_above 0 [some (.int l0)] [] h (some (.int z.1)) z.2 := by
  unfold D_X12_above at hq
  refine st_iload_n (pc := 0) dX12_above_0 rfl ?_
  refine bd_if_ne (pc := 1) (tgt := 8) hq dX12_above_1 (by decide) (fun _ hq => ?_) (fun _ hq => ?_)
  ·
    refine st_iconst (pc := 4) (v := (-1 : Int32)) dX12_above_4 rfl ?_
    refine st_goto (pc := 5) (tgt := 27) dX12_above_5 (by decide) ?_
    exact bd_iret (pc := 27) hq dX12_above_27 rfl
  ·
    refine st_iload_n (pc := 8) dX12_above_8 rfl ?_
    refine st_iconst (pc := 9) (v := (3 : Int32)) dX12_above_9 rfl ?_
    refine bd_icmp_ne (pc := 10) (tgt := 17) hq dX12_above_10 (by decide) (fun _ hq => ?_) (fun _ hq => ?_)
    ·
      refine st_iconst (pc := 13) (v := (1 : Int32)) dX12_above_13 rfl ?_
      refine st_goto (pc := 14) (tgt := 27) dX12_above_14 (by decide) ?_
      exact bd_iret (pc := 27) hq dX12_above_27 rfl
    ·
      refine st_iload_n (pc := 17) dX12_above_17 rfl ?_
      refine st_iconst (pc := 18) (v := (5 : Int32)) dX12_above_18 rfl ?_
      refine bd_icmp_ne (pc := 19) (tgt := 26) hq dX12_above_19 (by decide) (fun _ hq => ?_) (fun _ hq => ?_)
      ·
        refine st_iconst (pc := 22) (v := (2 : Int32)) dX12_above_22 rfl ?_
        refine st_goto (pc := 23) (tgt := 27) dX12_above_23 (by decide) ?_
        exact bd_iret (pc := 27) hq dX12_above_27 rfl
      ·
        refine st_iconst (pc := 26) (v := (0 : Int32)) dX12_above_26 rfl ?_
        exact bd_iret (pc := 27) hq dX12_above_27 rfl
-- HoleWaterModel.isUnder(II)Z
theorem dX12_isUnder_19 : decode cX12_isUnder 19 = .ok (.iload_n 2, 1) := by decide +kernel
theorem dX12_isUnder_20 : decode cX12_isUnder 20 = .ok (.iload_n 1, 1) := by decide +kernel
theorem dX12_isUnder_21 : decode cX12_isUnder 21 = .ok (.if_icmp .ne 7, 3) := by decide +kernel
theorem dX12_isUnder_24 : decode cX12_isUnder 24 = .ok (.iconst 1, 1) := by decide +kernel
theorem dX12_isUnder_25 : decode cX12_isUnder 25 = .ok (.goto 4, 3) := by decide +kernel
theorem dX12_isUnder_29 : decode cX12_isUnder 29 = .ok (.ireturn, 1) := by decide +kernel
theorem dX12_isUnder_28 : decode cX12_isUnder 28 = .ok (.iconst 0, 1) := by decide +kernel
theorem dX12_isUnder_2 : decode cX12_isUnder 2 = .ok (.iload_n 2, 1) := by decide +kernel
theorem dX12_isUnder_3 : decode cX12_isUnder 3 = .ok (.ifCond .lt 16, 3) := by decide +kernel
theorem dX12_isUnder_6 : decode cX12_isUnder 6 = .ok (.iload_n 2, 1) := by decide +kernel
theorem dX12_isUnder_7 : decode cX12_isUnder 7 = .ok (.iload_n 1, 1) := by decide +kernel
theorem dX12_isUnder_8 : decode cX12_isUnder 8 = .ok (.if_icmp .eq 11, 3) := by decide +kernel
theorem dX12_isUnder_11 : decode cX12_isUnder 11 = .ok (.iload_n 2, 1) := by decide +kernel
theorem dX12_isUnder_12 : decode cX12_isUnder 12 = .ok (.invokestatic 102, 3) := by decide +kernel
theorem dX12_isUnder_15 : decode cX12_isUnder 15 = .ok (.istore_n 2, 1) := by decide +kernel
theorem dX12_isUnder_16 : decode cX12_isUnder 16 = .ok (.goto (-14), 3) := by decide +kernel
theorem dX12_isUnder_0 : decode cX12_isUnder 0 = .ok (.iload_n 0, 1) := by decide +kernel
theorem dX12_isUnder_1 : decode cX12_isUnder 1 = .ok (.istore_n 2, 1) := by decide +kernel
def D_X12_isUnder_19 (N : Nat) (h : mh_H) (l1 : Int32) (l2 : Int32) : Option (Int32 × mh_H) :=
  if l2 = l1 then (zB (1 : Int32) h)
  else (zB (0 : Int32) h)
set_option maxHeartbeats 4000000 in
set_option maxRecDepth 100000 in
theorem T_X12_isUnder_19 {P : mh_E → Prop} {N d : Nat} (hd : 2 ≤ d) {z : (Int32 × mh_H)} {h : mh_H} {l1 : Int32} {l2 : Int32} (hq : D_X12_isUnder_19 N h l1 l2 = some z) : mh_go P d mX12_isUnder 19 [none, some (.int l1), some (.int l2)] [] h (some (.int z.1)) z.2 := by
  unfold D_X12_isUnder_19 at hq
  refine st_iload_n (pc := 19) dX12_isUnder_19 rfl ?_
  refine st_iload_n (pc := 20) dX12_isUnder_20 rfl ?_
  refine bd_icmp_ne (pc := 21) (tgt := 28) hq dX12_isUnder_21 (by decide) (fun _ hq => ?_) (fun _ hq => ?_)
  ·
    refine st_iconst (pc := 24) (v := (1 : Int32)) dX12_isUnder_24 rfl ?_
    refine st_goto (pc := 25) (tgt := 29) dX12_isUnder_25 (by decide) ?_
    exact bd_zret (pc := 29) hq dX12_isUnder_29 rfl
  ·
    refine st_iconst (pc := 28) (v := (0 : Int32)) dX12_isUnder_28 rfl ?_
    exact bd_zret (pc := 29) hq dX12_isUnder_29 rfl
def D_X12_isUnder_2 (N : Nat) : Nat → mh_H → Int32 → Int32 → Option (Int32 × mh_H)
  | 0, _, _, _ => none
  | F + 1, h, l1, l2 =>
    if l2 < 0 then (D_X12_isUnder_19 N h l1 l2)
    else (if l2 = l1 then (D_X12_isUnder_19 N h l1 l2)
    else ((D_X12_above N h l2).bind fun q1 =>
    (D_X12_isUnder_2 N F) q1.2 l1 q1.1))
set_option maxHeartbeats 4000000 in
set_option maxRecDepth 100000 in
theorem T_X12_isUnder_2 {P : mh_E → Prop} {N d : Nat} (hd : 2 ≤ d) {z : (Int32 × mh_H)} : ∀ (F : Nat) (h : mh_H) (l1 : Int32) (l2 : Int32), D_X12_isUnder_2 N F h l1 l2 = some z → mh_go P d mX12_isUnder 2 [none, some (.int l1), some (.int l2)] [] h (some (.int z.1)) z.2 := by
  intro F
  induction F with
  | zero => intro h l1 l2 hq; rw [D_X12_isUnder_2] at hq; cases hq
  | succ F ih =>
    intro h l1 l2 hq
    rw [D_X12_isUnder_2] at hq
    refine st_iload_n (pc := 2) dX12_isUnder_2 rfl ?_
    refine bd_if_lt (pc := 3) (tgt := 19) hq dX12_isUnder_3 (by decide) (fun _ hq => ?_) (fun _ hq => ?_)
    ·
      exact T_X12_isUnder_19 hd hq
    ·
      refine st_iload_n (pc := 6) dX12_isUnder_6 rfl ?_
      refine st_iload_n (pc := 7) dX12_isUnder_7 rfl ?_
      refine bd_icmp_eq (pc := 8) (tgt := 19) hq dX12_isUnder_8 (by decide) (fun _ hq => ?_) (fun _ hq => ?_)
      ·
        exact T_X12_isUnder_19 hd hq
      ·
        refine st_iload_n (pc := 11) dX12_isUnder_11 rfl ?_
        obtain ⟨q1, e1, hq⟩ := mh_ob hq
        refine st_invS (pc := 12) (Y := mX12_above) (vs := [.int l2]) (rest := []) (st2 := [.int q1.1]) dX12_isUnder_12 okX12_above wd_1296 wd_1297 pdX12_above rfl rfl rfl rfl (Nat.le_trans (by decide) hd) (Nat.le_of_ble_eq_true rfl) (T_X12_above (Nat.le_refl _) e1) rfl ?_
        refine st_istore_n (pc := 15) (lv' := [none, some (.int l1), some (.int q1.1)]) dX12_isUnder_15 rfl (by decide) rfl ?_
        refine st_goto (pc := 16) (tgt := 2) dX12_isUnder_16 (by decide) ?_
        exact ih _ _ _ hq
def D_X12_isUnder (N : Nat) (h : mh_H) (l0 : Int32) (l1 : Int32) : Option (Int32 × mh_H) :=
  D_X12_isUnder_2 N N h l1 l0
set_option maxHeartbeats 4000000 in
set_option maxRecDepth 100000 in
theorem T_X12_isUnder {P : mh_E → Prop} {N d : Nat} (hd : 2 ≤ d) {z : (Int32 × mh_H)} {h : mh_H} {l0 : Int32} {l1 : Int32} (hq : D_X12_isUnder N h l0 l1 = some z) : mh_go P d mX12_isUnder 0 [some (.int l0), some (.int l1), none] [] h (some (.int z.1)) z.2 := by
  unfold D_X12_isUnder at hq
  refine st_iload_n (pc := 0) dX12_isUnder_0 rfl ?_
  refine st_istore_n (pc := 1) (lv' := [some (.int l0), some (.int l1), some (.int l0)]) dX12_isUnder_1 rfl (by decide) rfl ?_
  refine st_lesS (lv' := [none, some (.int l1), some (.int l0)]) ⟨Or.inl rfl, Or.inr rfl, Or.inr rfl, trivial⟩ ?_
  exact T_X12_isUnder_2 hd N _ _ _ hq
-- HoleWaterModel.takes(I)I
theorem dX12_takes_0 : decode cX12_takes 0 = .ok (.aload_n 0, 1) := by decide +kernel
theorem dX12_takes_1 : decode cX12_takes 1 = .ok (.getfield 9, 3) := by decide +kernel
theorem dX12_takes_4 : decode cX12_takes 4 = .ok (.iload_n 1, 1) := by decide +kernel
theorem dX12_takes_5 : decode cX12_takes 5 = .ok (.invokestatic 99, 3) := by decide +kernel
theorem dX12_takes_8 : decode cX12_takes 8 = .ok (.iaload, 1) := by decide +kernel
theorem dX12_takes_9 : decode cX12_takes 9 = .ok (.istore_n 2, 1) := by decide +kernel
theorem dX12_takes_10 : decode cX12_takes 10 = .ok (.aload_n 0, 1) := by decide +kernel
theorem dX12_takes_11 : decode cX12_takes 11 = .ok (.getfield 9, 3) := by decide +kernel
theorem dX12_takes_14 : decode cX12_takes 14 = .ok (.iload_n 1, 1) := by decide +kernel
theorem dX12_takes_15 : decode cX12_takes 15 = .ok (.invokestatic 99, 3) := by decide +kernel
theorem dX12_takes_18 : decode cX12_takes 18 = .ok (.iconst 3, 1) := by decide +kernel
theorem dX12_takes_19 : decode cX12_takes 19 = .ok (.iadd, 1) := by decide +kernel
theorem dX12_takes_20 : decode cX12_takes 20 = .ok (.iaload, 1) := by decide +kernel
theorem dX12_takes_21 : decode cX12_takes 21 = .ok (.istore_n 3, 1) := by decide +kernel
theorem dX12_takes_22 : decode cX12_takes 22 = .ok (.iload_n 2, 1) := by decide +kernel
theorem dX12_takes_23 : decode cX12_takes 23 = .ok (.iconst 1, 1) := by decide +kernel
theorem dX12_takes_24 : decode cX12_takes 24 = .ok (.invokestatic 105, 3) := by decide +kernel
theorem dX12_takes_27 : decode cX12_takes 27 = .ok (.ifCond .eq 11, 3) := by decide +kernel
theorem dX12_takes_38 : decode cX12_takes 38 = .ok (.iload_n 2, 1) := by decide +kernel
theorem dX12_takes_39 : decode cX12_takes 39 = .ok (.iconst 2, 1) := by decide +kernel
theorem dX12_takes_40 : decode cX12_takes 40 = .ok (.invokestatic 105, 3) := by decide +kernel
theorem dX12_takes_43 : decode cX12_takes 43 = .ok (.ifCond .eq 9, 3) := by decide +kernel
theorem dX12_takes_52 : decode cX12_takes 52 = .ok (.iload_n 3, 1) := by decide +kernel
theorem dX12_takes_53 : decode cX12_takes 53 = .ok (.ireturn, 1) := by decide +kernel
theorem dX12_takes_46 : decode cX12_takes 46 = .ok (.iconst 2, 1) := by decide +kernel
theorem dX12_takes_47 : decode cX12_takes 47 = .ok (.iload_n 3, 1) := by decide +kernel
theorem dX12_takes_48 : decode cX12_takes 48 = .ok (.imul, 1) := by decide +kernel
theorem dX12_takes_49 : decode cX12_takes 49 = .ok (.goto 4, 3) := by decide +kernel
theorem dX12_takes_30 : decode cX12_takes 30 = .ok (.iload_n 3, 1) := by decide +kernel
theorem dX12_takes_31 : decode cX12_takes 31 = .ok (.iconst 2, 1) := by decide +kernel
theorem dX12_takes_32 : decode cX12_takes 32 = .ok (.idiv, 1) := by decide +kernel
theorem dX12_takes_33 : decode cX12_takes 33 = .ok (.iconst 1, 1) := by decide +kernel
theorem dX12_takes_34 : decode cX12_takes 34 = .ok (.iadd, 1) := by decide +kernel
theorem dX12_takes_35 : decode cX12_takes 35 = .ok (.goto 18, 3) := by decide +kernel
def D_X12_takes (N : Nat) (h : mh_H) (l0 : Nat) (l1 : Int32) : Option (Int32 × mh_H) :=
  (gR h 12 l0 0).bind fun v1 =>
  (D_X12_way N h l1).bind fun q2 =>
  (aI q2.2 v1 q2.1).bind fun v3 =>
  (gR q2.2 12 l0 0).bind fun v4 =>
  (D_X12_way N q2.2 l1).bind fun q5 =>
  (aI q5.2 v4 (q5.1 + (3 : Int32))).bind fun v6 =>
  (D_X12_isUnder N q5.2 v3 (1 : Int32)).bind fun q7 =>
  if q7.1 = 0 then ((D_X12_isUnder N q7.2 v3 (2 : Int32)).bind fun q8 =>
  if q8.1 = 0 then (some (v6, q8.2))
  else (some ((2 : Int32) * v6, q8.2)))
  else (dN (2 : Int32) <|
  some ((v6 / (2 : Int32)) + (1 : Int32), q7.2))
set_option maxHeartbeats 4000000 in
set_option maxRecDepth 100000 in
theorem T_X12_takes {P : mh_E → Prop} {N d : Nat} (hd : 3 ≤ d) {z : (Int32 × mh_H)} {h : mh_H} {l0 : Nat} {l1 : Int32} (hq : D_X12_takes N h l0 l1 = some z) : mh_go P d mX12_takes 0 [some (.ref l0), some (.int l1), none, none] [] h (some (.int z.1)) z.2 := by
  unfold D_X12_takes at hq
  refine st_aload_n (pc := 0) dX12_takes_0 rfl ?_
  refine bd_getr (pc := 1) hq dX12_takes_1 fl_12_9_12 rfl (fun v1 hq => ?_)
  refine st_iload_n (pc := 4) dX12_takes_4 rfl ?_
  obtain ⟨q2, e2, hq⟩ := mh_ob hq
  refine st_invS (pc := 5) (Y := mX12_way) (vs := [.int l1]) (rest := [.ref v1]) (st2 := [.int q2.1, .ref v1]) dX12_takes_5 okX12_way wd_1282 wd_1283 pdX12_way rfl rfl rfl rfl (Nat.le_trans (by decide) hd) (Nat.le_of_ble_eq_true rfl) (T_X12_way (Nat.le_refl _) e2) rfl ?_
  refine bd_iald (pc := 8) hq dX12_takes_8 (fun v3 hq => ?_)
  refine st_istore_n (pc := 9) (lv' := [some (.ref l0), some (.int l1), some (.int v3), none]) dX12_takes_9 rfl (by decide) rfl ?_
  refine st_aload_n (pc := 10) dX12_takes_10 rfl ?_
  refine bd_getr (pc := 11) hq dX12_takes_11 fl_12_9_12 rfl (fun v4 hq => ?_)
  refine st_iload_n (pc := 14) dX12_takes_14 rfl ?_
  obtain ⟨q5, e5, hq⟩ := mh_ob hq
  refine st_invS (pc := 15) (Y := mX12_way) (vs := [.int l1]) (rest := [.ref v4]) (st2 := [.int q5.1, .ref v4]) dX12_takes_15 okX12_way wd_1282 wd_1283 pdX12_way rfl rfl rfl rfl (Nat.le_trans (by decide) hd) (Nat.le_of_ble_eq_true rfl) (T_X12_way (Nat.le_refl _) e5) rfl ?_
  refine st_iconst (pc := 18) (v := (3 : Int32)) dX12_takes_18 rfl ?_
  refine st_iadd (pc := 19) dX12_takes_19 ?_
  refine bd_iald (pc := 20) hq dX12_takes_20 (fun v6 hq => ?_)
  refine st_istore_n (pc := 21) (lv' := [some (.ref l0), some (.int l1), some (.int v3), some (.int v6)]) dX12_takes_21 rfl (by decide) rfl ?_
  refine st_iload_n (pc := 22) dX12_takes_22 rfl ?_
  refine st_iconst (pc := 23) (v := (1 : Int32)) dX12_takes_23 rfl ?_
  obtain ⟨q7, e7, hq⟩ := mh_ob hq
  refine st_invS (pc := 24) (Y := mX12_isUnder) (vs := [.int v3, .int (1 : Int32)]) (rest := []) (st2 := [.int q7.1]) dX12_takes_24 okX12_isUnder wd_1293 wd_1294 pdX12_isUnder rfl rfl rfl rfl (Nat.le_trans (by decide) hd) (Nat.le_of_ble_eq_true rfl) (T_X12_isUnder (Nat.le_refl _) e7) rfl ?_
  refine bd_if_eq (pc := 27) (tgt := 38) hq dX12_takes_27 (by decide) (fun _ hq => ?_) (fun _ hq => ?_)
  ·
    refine st_iload_n (pc := 38) dX12_takes_38 rfl ?_
    refine st_iconst (pc := 39) (v := (2 : Int32)) dX12_takes_39 rfl ?_
    obtain ⟨q8, e8, hq⟩ := mh_ob hq
    refine st_invS (pc := 40) (Y := mX12_isUnder) (vs := [.int v3, .int (2 : Int32)]) (rest := []) (st2 := [.int q8.1]) dX12_takes_40 okX12_isUnder wd_1293 wd_1294 pdX12_isUnder rfl rfl rfl rfl (Nat.le_trans (by decide) hd) (Nat.le_of_ble_eq_true rfl) (T_X12_isUnder (Nat.le_refl _) e8) rfl ?_
    refine bd_if_eq (pc := 43) (tgt := 52) hq dX12_takes_43 (by decide) (fun _ hq => ?_) (fun _ hq => ?_)
    ·
      refine st_iload_n (pc := 52) dX12_takes_52 rfl ?_
      exact bd_iret (pc := 53) hq dX12_takes_53 rfl
    ·
      refine st_iconst (pc := 46) (v := (2 : Int32)) dX12_takes_46 rfl ?_
      refine st_iload_n (pc := 47) dX12_takes_47 rfl ?_
      refine st_imul (pc := 48) dX12_takes_48 ?_
      refine st_goto (pc := 49) (tgt := 53) dX12_takes_49 (by decide) ?_
      exact bd_iret (pc := 53) hq dX12_takes_53 rfl
  ·
    refine st_iload_n (pc := 30) dX12_takes_30 rfl ?_
    refine st_iconst (pc := 31) (v := (2 : Int32)) dX12_takes_31 rfl ?_
    refine bd_idiv (pc := 32) hq dX12_takes_32 (fun hq => ?_)
    refine st_iconst (pc := 33) (v := (1 : Int32)) dX12_takes_33 rfl ?_
    refine st_iadd (pc := 34) dX12_takes_34 ?_
    refine st_goto (pc := 35) (tgt := 53) dX12_takes_35 (by decide) ?_
    exact bd_iret (pc := 53) hq dX12_takes_53 rfl
-- HoleWaterModel.as(II)I
theorem dX12_as_20 : decode cX12_as 20 = .ok (.aload_n 0, 1) := by decide +kernel
theorem dX12_as_21 : decode cX12_as 21 = .ok (.iconst 1, 1) := by decide +kernel
theorem dX12_as_22 : decode cX12_as 22 = .ok (.invokevirtual 80, 3) := by decide +kernel
theorem dX12_as_25 : decode cX12_as 25 = .ok (.ireturn, 1) := by decide +kernel
theorem dX12_as_0 : decode cX12_as 0 = .ok (.aload_n 0, 1) := by decide +kernel
theorem dX12_as_1 : decode cX12_as 1 = .ok (.iload_n 1, 1) := by decide +kernel
theorem dX12_as_2 : decode cX12_as 2 = .ok (.invokevirtual 109, 3) := by decide +kernel
theorem dX12_as_5 : decode cX12_as 5 = .ok (.ifCond .eq 15, 3) := by decide +kernel
theorem dX12_as_8 : decode cX12_as 8 = .ok (.iload_n 2, 1) := by decide +kernel
theorem dX12_as_9 : decode cX12_as 9 = .ok (.i2l, 1) := by decide +kernel
theorem dX12_as_10 : decode cX12_as 10 = .ok (.lconst 0, 1) := by decide +kernel
theorem dX12_as_11 : decode cX12_as 11 = .ok (.ldc2_w 89, 3) := by decide +kernel
theorem dX12_as_14 : decode cX12_as 14 = .ok (.invokestatic 65, 3) := by decide +kernel
theorem dX12_as_17 : decode cX12_as 17 = .ok (.ifCond .ne 9, 3) := by decide +kernel
theorem dX12_as_26 : decode cX12_as 26 = .ok (.aload_n 0, 1) := by decide +kernel
theorem dX12_as_27 : decode cX12_as 27 = .ok (.getfield 9, 3) := by decide +kernel
theorem dX12_as_30 : decode cX12_as 30 = .ok (.iload_n 1, 1) := by decide +kernel
theorem dX12_as_31 : decode cX12_as 31 = .ok (.invokestatic 99, 3) := by decide +kernel
theorem dX12_as_34 : decode cX12_as 34 = .ok (.iaload, 1) := by decide +kernel
theorem dX12_as_35 : decode cX12_as 35 = .ok (.iload_n 2, 1) := by decide +kernel
theorem dX12_as_36 : decode cX12_as 36 = .ok (.invokestatic 105, 3) := by decide +kernel
theorem dX12_as_39 : decode cX12_as 39 = .ok (.ifCond .eq 11, 3) := by decide +kernel
theorem dX12_as_50 : decode cX12_as 50 = .ok (.aload_n 0, 1) := by decide +kernel
theorem dX12_as_51 : decode cX12_as 51 = .ok (.iconst 5, 1) := by decide +kernel
theorem dX12_as_52 : decode cX12_as 52 = .ok (.invokevirtual 80, 3) := by decide +kernel
theorem dX12_as_55 : decode cX12_as 55 = .ok (.ireturn, 1) := by decide +kernel
theorem dX12_as_42 : decode cX12_as 42 = .ok (.aload_n 0, 1) := by decide +kernel
theorem dX12_as_43 : decode cX12_as 43 = .ok (.iload_n 1, 1) := by decide +kernel
theorem dX12_as_44 : decode cX12_as 44 = .ok (.invokevirtual 112, 3) := by decide +kernel
theorem dX12_as_47 : decode cX12_as 47 = .ok (.goto 8, 3) := by decide +kernel
def D_X12_as_20 (N : Nat) (h : mh_H) (l0 : Nat) : Option (Int32 × mh_H) :=
  kO h 12 l0 <|
  (D_X12_error N h l0 (1 : Int32)).bind fun q1 =>
  some (q1.1, q1.2)
set_option maxHeartbeats 4000000 in
set_option maxRecDepth 100000 in
theorem T_X12_as_20 {P : mh_E → Prop} {N d : Nat} (hd : 4 ≤ d) {z : (Int32 × mh_H)} {h : mh_H} {l0 : Nat} (hq : D_X12_as_20 N h l0 = some z) : mh_go P d mX12_as 20 [some (.ref l0), none, none] [] h (some (.int z.1)) z.2 := by
  unfold D_X12_as_20 at hq
  refine st_aload_n (pc := 20) dX12_as_20 rfl ?_
  refine st_iconst (pc := 21) (v := (1 : Int32)) dX12_as_21 rfl ?_
  obtain ⟨⟨hbq1, hkq1⟩, hq⟩ := mh_oi hq
  obtain ⟨q1, e1, hq⟩ := mh_ob hq
  refine st_invV (pc := 22) (ci := 12) (vs := [.int (1 : Int32)]) (rest := []) (st2 := [.int q1.1]) dX12_as_22 okX12_error (by decide) hkq1 hbq1 wd_1247 wd_1249 wp_34 pdX12_error rfl rfl rfl rfl (Nat.le_trans (by decide) hd) (Nat.le_of_ble_eq_true rfl) (T_X12_error (Nat.le_refl _) e1) rfl ?_
  exact bd_iret (pc := 25) hq dX12_as_25 rfl
def D_X12_as (N : Nat) (h : mh_H) (l0 : Nat) (l1 : Int32) (l2 : Int32) : Option (Int32 × mh_H) :=
  kO h 12 l0 <|
  (D_X12_isWay N h l0 l1).bind fun q1 =>
  if q1.1 = 0 then (D_X12_as_20 N q1.2 l0)
  else ((D_X12_in N q1.2 l2.toInt64 (0 : Int64) (5 : Int64)).bind fun q2 =>
  if q2.1 = 0 then (D_X12_as_20 N q2.2 l0)
  else ((gR q2.2 12 l0 0).bind fun v3 =>
  (D_X12_way N q2.2 l1).bind fun q4 =>
  (aI q4.2 v3 q4.1).bind fun v5 =>
  (D_X12_isUnder N q4.2 v5 l2).bind fun q6 =>
  if q6.1 = 0 then (kO q6.2 12 l0 <|
  (D_X12_error N q6.2 l0 (5 : Int32)).bind fun q7 =>
  some (q7.1, q7.2))
  else (kO q6.2 12 l0 <|
  (D_X12_takes N q6.2 l0 l1).bind fun q7 =>
  some (q7.1, q7.2))))
set_option maxHeartbeats 4000000 in
set_option maxRecDepth 100000 in
theorem T_X12_as {P : mh_E → Prop} {N d : Nat} (hd : 4 ≤ d) {z : (Int32 × mh_H)} {h : mh_H} {l0 : Nat} {l1 : Int32} {l2 : Int32} (hq : D_X12_as N h l0 l1 l2 = some z) : mh_go P d mX12_as 0 [some (.ref l0), some (.int l1), some (.int l2)] [] h (some (.int z.1)) z.2 := by
  unfold D_X12_as at hq
  refine st_aload_n (pc := 0) dX12_as_0 rfl ?_
  refine st_iload_n (pc := 1) dX12_as_1 rfl ?_
  obtain ⟨⟨hbq1, hkq1⟩, hq⟩ := mh_oi hq
  obtain ⟨q1, e1, hq⟩ := mh_ob hq
  refine st_invV (pc := 2) (ci := 12) (vs := [.int l1]) (rest := []) (st2 := [.int q1.1]) dX12_as_2 okX12_isWay (by decide) hkq1 hbq1 wd_1289 wd_1291 wp_39 pdX12_isWay rfl rfl rfl rfl (Nat.le_trans (by decide) hd) (Nat.le_of_ble_eq_true rfl) (T_X12_isWay (Nat.le_refl _) e1) rfl ?_
  refine bd_if_eq (pc := 5) (tgt := 20) hq dX12_as_5 (by decide) (fun _ hq => ?_) (fun _ hq => ?_)
  ·
    refine st_lesS (lv' := [some (.ref l0), none, none]) ⟨Or.inr rfl, Or.inl rfl, Or.inl rfl, trivial⟩ ?_
    exact T_X12_as_20 hd hq
  ·
    refine st_iload_n (pc := 8) dX12_as_8 rfl ?_
    refine st_i2l (pc := 9) dX12_as_9 ?_
    refine st_lconst (pc := 10) (v := 0) dX12_as_10 rfl ?_
    refine st_ldc2 (pc := 11) (v := (5 : Int64)) dX12_as_11 wd_1268 ?_
    obtain ⟨q2, e2, hq⟩ := mh_ob hq
    refine st_invS (pc := 14) (Y := mX12_in) (vs := [.long l2.toInt64, .long (0 : Int64), .long (5 : Int64)]) (rest := []) (st2 := [.int q2.1]) dX12_as_14 okX12_in wd_1243 wd_1244 pdX12_in rfl rfl rfl rfl (Nat.le_trans (by decide) hd) (Nat.le_of_ble_eq_true rfl) (T_X12_in (Nat.le_refl _) e2) rfl ?_
    refine bd_if_ne (pc := 17) (tgt := 26) hq dX12_as_17 (by decide) (fun _ hq => ?_) (fun _ hq => ?_)
    ·
      refine st_lesS (lv' := [some (.ref l0), none, none]) ⟨Or.inr rfl, Or.inl rfl, Or.inl rfl, trivial⟩ ?_
      exact T_X12_as_20 hd hq
    ·
      refine st_aload_n (pc := 26) dX12_as_26 rfl ?_
      refine bd_getr (pc := 27) hq dX12_as_27 fl_12_9_12 rfl (fun v3 hq => ?_)
      refine st_iload_n (pc := 30) dX12_as_30 rfl ?_
      obtain ⟨q4, e4, hq⟩ := mh_ob hq
      refine st_invS (pc := 31) (Y := mX12_way) (vs := [.int l1]) (rest := [.ref v3]) (st2 := [.int q4.1, .ref v3]) dX12_as_31 okX12_way wd_1282 wd_1283 pdX12_way rfl rfl rfl rfl (Nat.le_trans (by decide) hd) (Nat.le_of_ble_eq_true rfl) (T_X12_way (Nat.le_refl _) e4) rfl ?_
      refine bd_iald (pc := 34) hq dX12_as_34 (fun v5 hq => ?_)
      refine st_iload_n (pc := 35) dX12_as_35 rfl ?_
      obtain ⟨q6, e6, hq⟩ := mh_ob hq
      refine st_invS (pc := 36) (Y := mX12_isUnder) (vs := [.int v5, .int l2]) (rest := []) (st2 := [.int q6.1]) dX12_as_36 okX12_isUnder wd_1293 wd_1294 pdX12_isUnder rfl rfl rfl rfl (Nat.le_trans (by decide) hd) (Nat.le_of_ble_eq_true rfl) (T_X12_isUnder (Nat.le_refl _) e6) rfl ?_
      refine bd_if_eq (pc := 39) (tgt := 50) hq dX12_as_39 (by decide) (fun _ hq => ?_) (fun _ hq => ?_)
      ·
        refine st_aload_n (pc := 50) dX12_as_50 rfl ?_
        refine st_iconst (pc := 51) (v := (5 : Int32)) dX12_as_51 rfl ?_
        obtain ⟨⟨hbq7, hkq7⟩, hq⟩ := mh_oi hq
        obtain ⟨q7, e7, hq⟩ := mh_ob hq
        refine st_invV (pc := 52) (ci := 12) (vs := [.int (5 : Int32)]) (rest := []) (st2 := [.int q7.1]) dX12_as_52 okX12_error (by decide) hkq7 hbq7 wd_1247 wd_1249 wp_34 pdX12_error rfl rfl rfl rfl (Nat.le_trans (by decide) hd) (Nat.le_of_ble_eq_true rfl) (T_X12_error (Nat.le_refl _) e7) rfl ?_
        exact bd_iret (pc := 55) hq dX12_as_55 rfl
      ·
        refine st_aload_n (pc := 42) dX12_as_42 rfl ?_
        refine st_iload_n (pc := 43) dX12_as_43 rfl ?_
        obtain ⟨⟨hbq7, hkq7⟩, hq⟩ := mh_oi hq
        obtain ⟨q7, e7, hq⟩ := mh_ob hq
        refine st_invV (pc := 44) (ci := 12) (vs := [.int l1]) (rest := []) (st2 := [.int q7.1]) dX12_as_44 okX12_takes (by decide) hkq7 hbq7 wd_1299 wd_1301 wp_40 pdX12_takes rfl rfl rfl rfl (Nat.le_trans (by decide) hd) (Nat.le_of_ble_eq_true rfl) (T_X12_takes (Nat.le_refl _) e7) rfl ?_
        refine st_goto (pc := 47) (tgt := 55) dX12_as_47 (by decide) ?_
        exact bd_iret (pc := 55) hq dX12_as_55 rfl
-- HoleWaterModel.inWay(II)I
theorem dX12_inWay_17 : decode cX12_inWay 17 = .ok (.iload 4, 2) := by decide +kernel
theorem dX12_inWay_19 : decode cX12_inWay 19 = .ok (.bipush 41, 2) := by decide +kernel
theorem dX12_inWay_21 : decode cX12_inWay 21 = .ok (.if_icmp .ge 31, 3) := by decide +kernel
theorem dX12_inWay_52 : decode cX12_inWay 52 = .ok (.iload_n 3, 1) := by decide +kernel
theorem dX12_inWay_53 : decode cX12_inWay 53 = .ok (.ireturn, 1) := by decide +kernel
theorem dX12_inWay_24 : decode cX12_inWay 24 = .ok (.iload_n 3, 1) := by decide +kernel
theorem dX12_inWay_25 : decode cX12_inWay 25 = .ok (.aload_n 0, 1) := by decide +kernel
theorem dX12_inWay_26 : decode cX12_inWay 26 = .ok (.getfield 9, 3) := by decide +kernel
theorem dX12_inWay_29 : decode cX12_inWay 29 = .ok (.iload_n 1, 1) := by decide +kernel
theorem dX12_inWay_30 : decode cX12_inWay 30 = .ok (.invokestatic 99, 3) := by decide +kernel
theorem dX12_inWay_33 : decode cX12_inWay 33 = .ok (.bipush 10, 2) := by decide +kernel
theorem dX12_inWay_35 : decode cX12_inWay 35 = .ok (.iadd, 1) := by decide +kernel
theorem dX12_inWay_36 : decode cX12_inWay 36 = .ok (.iconst 5, 1) := by decide +kernel
theorem dX12_inWay_37 : decode cX12_inWay 37 = .ok (.iload 4, 2) := by decide +kernel
theorem dX12_inWay_39 : decode cX12_inWay 39 = .ok (.imul, 1) := by decide +kernel
theorem dX12_inWay_40 : decode cX12_inWay 40 = .ok (.iadd, 1) := by decide +kernel
theorem dX12_inWay_41 : decode cX12_inWay 41 = .ok (.iload_n 2, 1) := by decide +kernel
theorem dX12_inWay_42 : decode cX12_inWay 42 = .ok (.iadd, 1) := by decide +kernel
theorem dX12_inWay_43 : decode cX12_inWay 43 = .ok (.iaload, 1) := by decide +kernel
theorem dX12_inWay_44 : decode cX12_inWay 44 = .ok (.iadd, 1) := by decide +kernel
theorem dX12_inWay_45 : decode cX12_inWay 45 = .ok (.istore_n 3, 1) := by decide +kernel
theorem dX12_inWay_46 : decode cX12_inWay 46 = .ok (.iinc 4 1, 3) := by decide +kernel
theorem dX12_inWay_49 : decode cX12_inWay 49 = .ok (.goto (-32), 3) := by decide +kernel
theorem dX12_inWay_0 : decode cX12_inWay 0 = .ok (.aload_n 0, 1) := by decide +kernel
theorem dX12_inWay_1 : decode cX12_inWay 1 = .ok (.getfield 9, 3) := by decide +kernel
theorem dX12_inWay_4 : decode cX12_inWay 4 = .ok (.iload_n 1, 1) := by decide +kernel
theorem dX12_inWay_5 : decode cX12_inWay 5 = .ok (.invokestatic 99, 3) := by decide +kernel
theorem dX12_inWay_8 : decode cX12_inWay 8 = .ok (.iconst 5, 1) := by decide +kernel
theorem dX12_inWay_9 : decode cX12_inWay 9 = .ok (.iadd, 1) := by decide +kernel
theorem dX12_inWay_10 : decode cX12_inWay 10 = .ok (.iload_n 2, 1) := by decide +kernel
theorem dX12_inWay_11 : decode cX12_inWay 11 = .ok (.iadd, 1) := by decide +kernel
theorem dX12_inWay_12 : decode cX12_inWay 12 = .ok (.iaload, 1) := by decide +kernel
theorem dX12_inWay_13 : decode cX12_inWay 13 = .ok (.istore_n 3, 1) := by decide +kernel
theorem dX12_inWay_14 : decode cX12_inWay 14 = .ok (.iconst 0, 1) := by decide +kernel
theorem dX12_inWay_15 : decode cX12_inWay 15 = .ok (.istore 4, 2) := by decide +kernel
def D_X12_inWay_17 (N : Nat) : Nat → mh_H → Nat → Int32 → Int32 → Int32 → Int32 → Option (Int32 × mh_H)
  | 0, _, _, _, _, _, _ => none
  | F + 1, h, l0, l1, l2, l3, l4 =>
    if (41 : Int32) ≤ l4 then (some (l3, h))
    else ((gR h 12 l0 0).bind fun v1 =>
    (D_X12_way N h l1).bind fun q2 =>
    (aI q2.2 v1 (((q2.1 + (10 : Int32)) + ((5 : Int32) * l4)) + l2)).bind fun v3 =>
    (D_X12_inWay_17 N F) q2.2 l0 l1 l2 (l3 + v3) (l4 + Int32.ofInt (1)))
set_option maxHeartbeats 4000000 in
set_option maxRecDepth 100000 in
theorem T_X12_inWay_17 {P : mh_E → Prop} {N d : Nat} (hd : 2 ≤ d) {z : (Int32 × mh_H)} : ∀ (F : Nat) (h : mh_H) (l0 : Nat) (l1 : Int32) (l2 : Int32) (l3 : Int32) (l4 : Int32), D_X12_inWay_17 N F h l0 l1 l2 l3 l4 = some z → mh_go P d mX12_inWay 17 [some (.ref l0), some (.int l1), some (.int l2), some (.int l3), some (.int l4)] [] h (some (.int z.1)) z.2 := by
  intro F
  induction F with
  | zero => intro h l0 l1 l2 l3 l4 hq; rw [D_X12_inWay_17] at hq; cases hq
  | succ F ih =>
    intro h l0 l1 l2 l3 l4 hq
    rw [D_X12_inWay_17] at hq
    refine st_iload (pc := 17) dX12_inWay_17 rfl ?_
    refine st_bipush (pc := 19) (v := (41 : Int32)) dX12_inWay_19 (by decide) ?_
    refine bd_icmp_ge (pc := 21) (tgt := 52) hq dX12_inWay_21 (by decide) (fun _ hq => ?_) (fun _ hq => ?_)
    ·
      refine st_iload_n (pc := 52) dX12_inWay_52 rfl ?_
      exact bd_iret (pc := 53) hq dX12_inWay_53 rfl
    ·
      refine st_iload_n (pc := 24) dX12_inWay_24 rfl ?_
      refine st_aload_n (pc := 25) dX12_inWay_25 rfl ?_
      refine bd_getr (pc := 26) hq dX12_inWay_26 fl_12_9_12 rfl (fun v1 hq => ?_)
      refine st_iload_n (pc := 29) dX12_inWay_29 rfl ?_
      obtain ⟨q2, e2, hq⟩ := mh_ob hq
      refine st_invS (pc := 30) (Y := mX12_way) (vs := [.int l1]) (rest := [.ref v1, .int l3]) (st2 := [.int q2.1, .ref v1, .int l3]) dX12_inWay_30 okX12_way wd_1282 wd_1283 pdX12_way rfl rfl rfl rfl (Nat.le_trans (by decide) hd) (Nat.le_of_ble_eq_true rfl) (T_X12_way (Nat.le_refl _) e2) rfl ?_
      refine st_bipush (pc := 33) (v := (10 : Int32)) dX12_inWay_33 (by decide) ?_
      refine st_iadd (pc := 35) dX12_inWay_35 ?_
      refine st_iconst (pc := 36) (v := (5 : Int32)) dX12_inWay_36 rfl ?_
      refine st_iload (pc := 37) dX12_inWay_37 rfl ?_
      refine st_imul (pc := 39) dX12_inWay_39 ?_
      refine st_iadd (pc := 40) dX12_inWay_40 ?_
      refine st_iload_n (pc := 41) dX12_inWay_41 rfl ?_
      refine st_iadd (pc := 42) dX12_inWay_42 ?_
      refine bd_iald (pc := 43) hq dX12_inWay_43 (fun v3 hq => ?_)
      refine st_iadd (pc := 44) dX12_inWay_44 ?_
      refine st_istore_n (pc := 45) (lv' := [some (.ref l0), some (.int l1), some (.int l2), some (.int (l3 + v3)), some (.int l4)]) dX12_inWay_45 rfl (by decide) rfl ?_
      refine st_iinc (pc := 46) (lv' := [some (.ref l0), some (.int l1), some (.int l2), some (.int (l3 + v3)), some (.int (l4 + Int32.ofInt (1)))]) dX12_inWay_46 rfl rfl (by decide) rfl ?_
      refine st_goto (pc := 49) (tgt := 17) dX12_inWay_49 (by decide) ?_
      exact ih _ _ _ _ _ _ hq
def D_X12_inWay (N : Nat) (h : mh_H) (l0 : Nat) (l1 : Int32) (l2 : Int32) : Option (Int32 × mh_H) :=
  (gR h 12 l0 0).bind fun v1 =>
  (D_X12_way N h l1).bind fun q2 =>
  (aI q2.2 v1 ((q2.1 + (5 : Int32)) + l2)).bind fun v3 =>
  D_X12_inWay_17 N N q2.2 l0 l1 l2 v3 (0 : Int32)
set_option maxHeartbeats 4000000 in
set_option maxRecDepth 100000 in
theorem T_X12_inWay {P : mh_E → Prop} {N d : Nat} (hd : 2 ≤ d) {z : (Int32 × mh_H)} {h : mh_H} {l0 : Nat} {l1 : Int32} {l2 : Int32} (hq : D_X12_inWay N h l0 l1 l2 = some z) : mh_go P d mX12_inWay 0 [some (.ref l0), some (.int l1), some (.int l2), none, none] [] h (some (.int z.1)) z.2 := by
  unfold D_X12_inWay at hq
  refine st_aload_n (pc := 0) dX12_inWay_0 rfl ?_
  refine bd_getr (pc := 1) hq dX12_inWay_1 fl_12_9_12 rfl (fun v1 hq => ?_)
  refine st_iload_n (pc := 4) dX12_inWay_4 rfl ?_
  obtain ⟨q2, e2, hq⟩ := mh_ob hq
  refine st_invS (pc := 5) (Y := mX12_way) (vs := [.int l1]) (rest := [.ref v1]) (st2 := [.int q2.1, .ref v1]) dX12_inWay_5 okX12_way wd_1282 wd_1283 pdX12_way rfl rfl rfl rfl (Nat.le_trans (by decide) hd) (Nat.le_of_ble_eq_true rfl) (T_X12_way (Nat.le_refl _) e2) rfl ?_
  refine st_iconst (pc := 8) (v := (5 : Int32)) dX12_inWay_8 rfl ?_
  refine st_iadd (pc := 9) dX12_inWay_9 ?_
  refine st_iload_n (pc := 10) dX12_inWay_10 rfl ?_
  refine st_iadd (pc := 11) dX12_inWay_11 ?_
  refine bd_iald (pc := 12) hq dX12_inWay_12 (fun v3 hq => ?_)
  refine st_istore_n (pc := 13) (lv' := [some (.ref l0), some (.int l1), some (.int l2), some (.int v3), none]) dX12_inWay_13 rfl (by decide) rfl ?_
  refine st_iconst (pc := 14) (v := (0 : Int32)) dX12_inWay_14 rfl ?_
  refine st_istore (pc := 15) (lv' := [some (.ref l0), some (.int l1), some (.int l2), some (.int v3), some (.int (0 : Int32))]) dX12_inWay_15 rfl (by decide) rfl ?_
  exact T_X12_inWay_17 hd N _ _ _ _ _ _ hq
-- HoleWaterModel.wayIs(II)I
theorem dX12_wayIs_20 : decode cX12_wayIs 20 = .ok (.aload_n 0, 1) := by decide +kernel
theorem dX12_wayIs_21 : decode cX12_wayIs 21 = .ok (.iconst 1, 1) := by decide +kernel
theorem dX12_wayIs_22 : decode cX12_wayIs 22 = .ok (.invokevirtual 80, 3) := by decide +kernel
theorem dX12_wayIs_25 : decode cX12_wayIs 25 = .ok (.ireturn, 1) := by decide +kernel
theorem dX12_wayIs_0 : decode cX12_wayIs 0 = .ok (.aload_n 0, 1) := by decide +kernel
theorem dX12_wayIs_1 : decode cX12_wayIs 1 = .ok (.iload_n 1, 1) := by decide +kernel
theorem dX12_wayIs_2 : decode cX12_wayIs 2 = .ok (.invokevirtual 109, 3) := by decide +kernel
theorem dX12_wayIs_5 : decode cX12_wayIs 5 = .ok (.ifCond .eq 15, 3) := by decide +kernel
theorem dX12_wayIs_8 : decode cX12_wayIs 8 = .ok (.iload_n 2, 1) := by decide +kernel
theorem dX12_wayIs_9 : decode cX12_wayIs 9 = .ok (.i2l, 1) := by decide +kernel
theorem dX12_wayIs_10 : decode cX12_wayIs 10 = .ok (.lconst 0, 1) := by decide +kernel
theorem dX12_wayIs_11 : decode cX12_wayIs 11 = .ok (.ldc2_w 87, 3) := by decide +kernel
theorem dX12_wayIs_14 : decode cX12_wayIs 14 = .ok (.invokestatic 65, 3) := by decide +kernel
theorem dX12_wayIs_17 : decode cX12_wayIs 17 = .ok (.ifCond .ne 9, 3) := by decide +kernel
theorem dX12_wayIs_26 : decode cX12_wayIs 26 = .ok (.iload_n 2, 1) := by decide +kernel
theorem dX12_wayIs_27 : decode cX12_wayIs 27 = .ok (.iconst 5, 1) := by decide +kernel
theorem dX12_wayIs_28 : decode cX12_wayIs 28 = .ok (.if_icmp .ge 17, 3) := by decide +kernel
theorem dX12_wayIs_45 : decode cX12_wayIs 45 = .ok (.iload_n 2, 1) := by decide +kernel
theorem dX12_wayIs_46 : decode cX12_wayIs 46 = .ok (.iconst 5, 1) := by decide +kernel
theorem dX12_wayIs_47 : decode cX12_wayIs 47 = .ok (.if_icmp .ne 11, 3) := by decide +kernel
theorem dX12_wayIs_50 : decode cX12_wayIs 50 = .ok (.aload_n 0, 1) := by decide +kernel
theorem dX12_wayIs_51 : decode cX12_wayIs 51 = .ok (.iload_n 1, 1) := by decide +kernel
theorem dX12_wayIs_52 : decode cX12_wayIs 52 = .ok (.invokevirtual 112, 3) := by decide +kernel
theorem dX12_wayIs_55 : decode cX12_wayIs 55 = .ok (.goto 9, 3) := by decide +kernel
theorem dX12_wayIs_64 : decode cX12_wayIs 64 = .ok (.ireturn, 1) := by decide +kernel
theorem dX12_wayIs_58 : decode cX12_wayIs 58 = .ok (.aload_n 0, 1) := by decide +kernel
theorem dX12_wayIs_59 : decode cX12_wayIs 59 = .ok (.iload_n 1, 1) := by decide +kernel
theorem dX12_wayIs_60 : decode cX12_wayIs 60 = .ok (.iconst 0, 1) := by decide +kernel
theorem dX12_wayIs_61 : decode cX12_wayIs 61 = .ok (.invokevirtual 115, 3) := by decide +kernel
theorem dX12_wayIs_31 : decode cX12_wayIs 31 = .ok (.aload_n 0, 1) := by decide +kernel
theorem dX12_wayIs_32 : decode cX12_wayIs 32 = .ok (.getfield 9, 3) := by decide +kernel
theorem dX12_wayIs_35 : decode cX12_wayIs 35 = .ok (.iload_n 1, 1) := by decide +kernel
theorem dX12_wayIs_36 : decode cX12_wayIs 36 = .ok (.invokestatic 99, 3) := by decide +kernel
theorem dX12_wayIs_39 : decode cX12_wayIs 39 = .ok (.iload_n 2, 1) := by decide +kernel
theorem dX12_wayIs_40 : decode cX12_wayIs 40 = .ok (.iadd, 1) := by decide +kernel
theorem dX12_wayIs_41 : decode cX12_wayIs 41 = .ok (.iaload, 1) := by decide +kernel
theorem dX12_wayIs_42 : decode cX12_wayIs 42 = .ok (.goto 22, 3) := by decide +kernel
def D_X12_wayIs_20 (N : Nat) (h : mh_H) (l0 : Nat) : Option (Int32 × mh_H) :=
  kO h 12 l0 <|
  (D_X12_error N h l0 (1 : Int32)).bind fun q1 =>
  some (q1.1, q1.2)
set_option maxHeartbeats 4000000 in
set_option maxRecDepth 100000 in
theorem T_X12_wayIs_20 {P : mh_E → Prop} {N d : Nat} (hd : 4 ≤ d) {z : (Int32 × mh_H)} {h : mh_H} {l0 : Nat} (hq : D_X12_wayIs_20 N h l0 = some z) : mh_go P d mX12_wayIs 20 [some (.ref l0), none, none] [] h (some (.int z.1)) z.2 := by
  unfold D_X12_wayIs_20 at hq
  refine st_aload_n (pc := 20) dX12_wayIs_20 rfl ?_
  refine st_iconst (pc := 21) (v := (1 : Int32)) dX12_wayIs_21 rfl ?_
  obtain ⟨⟨hbq1, hkq1⟩, hq⟩ := mh_oi hq
  obtain ⟨q1, e1, hq⟩ := mh_ob hq
  refine st_invV (pc := 22) (ci := 12) (vs := [.int (1 : Int32)]) (rest := []) (st2 := [.int q1.1]) dX12_wayIs_22 okX12_error (by decide) hkq1 hbq1 wd_1247 wd_1249 wp_34 pdX12_error rfl rfl rfl rfl (Nat.le_trans (by decide) hd) (Nat.le_of_ble_eq_true rfl) (T_X12_error (Nat.le_refl _) e1) rfl ?_
  exact bd_iret (pc := 25) hq dX12_wayIs_25 rfl
def D_X12_wayIs (N : Nat) (h : mh_H) (l0 : Nat) (l1 : Int32) (l2 : Int32) : Option (Int32 × mh_H) :=
  kO h 12 l0 <|
  (D_X12_isWay N h l0 l1).bind fun q1 =>
  if q1.1 = 0 then (D_X12_wayIs_20 N q1.2 l0)
  else ((D_X12_in N q1.2 l2.toInt64 (0 : Int64) (6 : Int64)).bind fun q2 =>
  if q2.1 = 0 then (D_X12_wayIs_20 N q2.2 l0)
  else (if (5 : Int32) ≤ l2 then (if l2 = (5 : Int32) then (kO q2.2 12 l0 <|
  (D_X12_takes N q2.2 l0 l1).bind fun q3 =>
  some (q3.1, q3.2))
  else (kO q2.2 12 l0 <|
  (D_X12_inWay N q2.2 l0 l1 (0 : Int32)).bind fun q3 =>
  some (q3.1, q3.2)))
  else ((gR q2.2 12 l0 0).bind fun v3 =>
  (D_X12_way N q2.2 l1).bind fun q4 =>
  (aI q4.2 v3 (q4.1 + l2)).bind fun v5 =>
  some (v5, q4.2))))
set_option maxHeartbeats 4000000 in
set_option maxRecDepth 100000 in
theorem T_X12_wayIs {P : mh_E → Prop} {N d : Nat} (hd : 4 ≤ d) {z : (Int32 × mh_H)} {h : mh_H} {l0 : Nat} {l1 : Int32} {l2 : Int32} (hq : D_X12_wayIs N h l0 l1 l2 = some z) : mh_go P d mX12_wayIs 0 [some (.ref l0), some (.int l1), some (.int l2)] [] h (some (.int z.1)) z.2 := by
  unfold D_X12_wayIs at hq
  refine st_aload_n (pc := 0) dX12_wayIs_0 rfl ?_
  refine st_iload_n (pc := 1) dX12_wayIs_1 rfl ?_
  obtain ⟨⟨hbq1, hkq1⟩, hq⟩ := mh_oi hq
  obtain ⟨q1, e1, hq⟩ := mh_ob hq
  refine st_invV (pc := 2) (ci := 12) (vs := [.int l1]) (rest := []) (st2 := [.int q1.1]) dX12_wayIs_2 okX12_isWay (by decide) hkq1 hbq1 wd_1289 wd_1291 wp_39 pdX12_isWay rfl rfl rfl rfl (Nat.le_trans (by decide) hd) (Nat.le_of_ble_eq_true rfl) (T_X12_isWay (Nat.le_refl _) e1) rfl ?_
  refine bd_if_eq (pc := 5) (tgt := 20) hq dX12_wayIs_5 (by decide) (fun _ hq => ?_) (fun _ hq => ?_)
  ·
    refine st_lesS (lv' := [some (.ref l0), none, none]) ⟨Or.inr rfl, Or.inl rfl, Or.inl rfl, trivial⟩ ?_
    exact T_X12_wayIs_20 hd hq
  ·
    refine st_iload_n (pc := 8) dX12_wayIs_8 rfl ?_
    refine st_i2l (pc := 9) dX12_wayIs_9 ?_
    refine st_lconst (pc := 10) (v := 0) dX12_wayIs_10 rfl ?_
    refine st_ldc2 (pc := 11) (v := (6 : Int64)) dX12_wayIs_11 wd_1263 ?_
    obtain ⟨q2, e2, hq⟩ := mh_ob hq
    refine st_invS (pc := 14) (Y := mX12_in) (vs := [.long l2.toInt64, .long (0 : Int64), .long (6 : Int64)]) (rest := []) (st2 := [.int q2.1]) dX12_wayIs_14 okX12_in wd_1243 wd_1244 pdX12_in rfl rfl rfl rfl (Nat.le_trans (by decide) hd) (Nat.le_of_ble_eq_true rfl) (T_X12_in (Nat.le_refl _) e2) rfl ?_
    refine bd_if_ne (pc := 17) (tgt := 26) hq dX12_wayIs_17 (by decide) (fun _ hq => ?_) (fun _ hq => ?_)
    ·
      refine st_lesS (lv' := [some (.ref l0), none, none]) ⟨Or.inr rfl, Or.inl rfl, Or.inl rfl, trivial⟩ ?_
      exact T_X12_wayIs_20 hd hq
    ·
      refine st_iload_n (pc := 26) dX12_wayIs_26 rfl ?_
      refine st_iconst (pc := 27) (v := (5 : Int32)) dX12_wayIs_27 rfl ?_
      refine bd_icmp_ge (pc := 28) (tgt := 45) hq dX12_wayIs_28 (by decide) (fun _ hq => ?_) (fun _ hq => ?_)
      ·
        refine st_iload_n (pc := 45) dX12_wayIs_45 rfl ?_
        refine st_iconst (pc := 46) (v := (5 : Int32)) dX12_wayIs_46 rfl ?_
        refine bd_icmp_ne (pc := 47) (tgt := 58) hq dX12_wayIs_47 (by decide) (fun _ hq => ?_) (fun _ hq => ?_)
        ·
          refine st_aload_n (pc := 50) dX12_wayIs_50 rfl ?_
          refine st_iload_n (pc := 51) dX12_wayIs_51 rfl ?_
          obtain ⟨⟨hbq3, hkq3⟩, hq⟩ := mh_oi hq
          obtain ⟨q3, e3, hq⟩ := mh_ob hq
          refine st_invV (pc := 52) (ci := 12) (vs := [.int l1]) (rest := []) (st2 := [.int q3.1]) dX12_wayIs_52 okX12_takes (by decide) hkq3 hbq3 wd_1299 wd_1301 wp_40 pdX12_takes rfl rfl rfl rfl (Nat.le_trans (by decide) hd) (Nat.le_of_ble_eq_true rfl) (T_X12_takes (Nat.le_refl _) e3) rfl ?_
          refine st_goto (pc := 55) (tgt := 64) dX12_wayIs_55 (by decide) ?_
          exact bd_iret (pc := 64) hq dX12_wayIs_64 rfl
        ·
          refine st_aload_n (pc := 58) dX12_wayIs_58 rfl ?_
          refine st_iload_n (pc := 59) dX12_wayIs_59 rfl ?_
          refine st_iconst (pc := 60) (v := (0 : Int32)) dX12_wayIs_60 rfl ?_
          obtain ⟨⟨hbq3, hkq3⟩, hq⟩ := mh_oi hq
          obtain ⟨q3, e3, hq⟩ := mh_ob hq
          refine st_invV (pc := 61) (ci := 12) (vs := [.int l1, .int (0 : Int32)]) (rest := []) (st2 := [.int q3.1]) dX12_wayIs_61 okX12_inWay (by decide) hkq3 hbq3 wd_1307 wd_1309 wp_41 pdX12_inWay rfl rfl rfl rfl (Nat.le_trans (by decide) hd) (Nat.le_of_ble_eq_true rfl) (T_X12_inWay (Nat.le_refl _) e3) rfl ?_
          exact bd_iret (pc := 64) hq dX12_wayIs_64 rfl
      ·
        refine st_aload_n (pc := 31) dX12_wayIs_31 rfl ?_
        refine bd_getr (pc := 32) hq dX12_wayIs_32 fl_12_9_12 rfl (fun v3 hq => ?_)
        refine st_iload_n (pc := 35) dX12_wayIs_35 rfl ?_
        obtain ⟨q4, e4, hq⟩ := mh_ob hq
        refine st_invS (pc := 36) (Y := mX12_way) (vs := [.int l1]) (rest := [.ref v3]) (st2 := [.int q4.1, .ref v3]) dX12_wayIs_36 okX12_way wd_1282 wd_1283 pdX12_way rfl rfl rfl rfl (Nat.le_trans (by decide) hd) (Nat.le_of_ble_eq_true rfl) (T_X12_way (Nat.le_refl _) e4) rfl ?_
        refine st_iload_n (pc := 39) dX12_wayIs_39 rfl ?_
        refine st_iadd (pc := 40) dX12_wayIs_40 ?_
        refine bd_iald (pc := 41) hq dX12_wayIs_41 (fun v5 hq => ?_)
        refine st_goto (pc := 42) (tgt := 64) dX12_wayIs_42 (by decide) ?_
        exact bd_iret (pc := 64) hq dX12_wayIs_64 rfl
