-- HoleWater$Reader.tests()V
theorem dX5_tests_85 : decode cX5_tests 85 = .ok (.putfield 46, 3) := by decide +kernel
theorem dX5_tests_88 : decode cX5_tests 88 = .ok (.aload_n 0, 1) := by decide +kernel
theorem dX5_tests_89 : decode cX5_tests 89 = .ok (.iconst 0, 1) := by decide +kernel
theorem dX5_tests_90 : decode cX5_tests 90 = .ok (.invokevirtual 54, 3) := by decide +kernel
theorem dX5_tests_93 : decode cX5_tests 93 = .ok (.aload_n 0, 1) := by decide +kernel
theorem dX5_tests_94 : decode cX5_tests 94 = .ok (.getfield 20, 3) := by decide +kernel
theorem dX5_tests_97 : decode cX5_tests 97 = .ok (.iload_n 3, 1) := by decide +kernel
theorem dX5_tests_98 : decode cX5_tests 98 = .ok (.ineg, 1) := by decide +kernel
theorem dX5_tests_99 : decode cX5_tests 99 = .ok (.invokevirtual 60, 3) := by decide +kernel
theorem dX5_tests_102 : decode cX5_tests 102 = .ok (.pop, 1) := by decide +kernel
theorem dX5_tests_103 : decode cX5_tests 103 = .ok (.aload_n 0, 1) := by decide +kernel
theorem dX5_tests_104 : decode cX5_tests 104 = .ok (.getfield 20, 3) := by decide +kernel
theorem dX5_tests_107 : decode cX5_tests 107 = .ok (.bipush (-38), 2) := by decide +kernel
theorem dX5_tests_109 : decode cX5_tests 109 = .ok (.invokevirtual 60, 3) := by decide +kernel
theorem dX5_tests_112 : decode cX5_tests 112 = .ok (.pop, 1) := by decide +kernel
theorem dX5_tests_113 : decode cX5_tests 113 = .ok (.aload_n 0, 1) := by decide +kernel
theorem dX5_tests_114 : decode cX5_tests 114 = .ok (.bipush 38, 2) := by decide +kernel
theorem dX5_tests_116 : decode cX5_tests 116 = .ok (.invokevirtual 64, 3) := by decide +kernel
theorem dX5_tests_119 : decode cX5_tests 119 = .ok (.istore_n 1, 1) := by decide +kernel
theorem dX5_tests_120 : decode cX5_tests 120 = .ok (.iinc 2 1, 3) := by decide +kernel
theorem dX5_tests_123 : decode cX5_tests 123 = .ok (.goto (-114), 3) := by decide +kernel
theorem dX5_tests_80 : decode cX5_tests 80 = .ok (.iconst 1, 1) := by decide +kernel
theorem dX5_tests_81 : decode cX5_tests 81 = .ok (.goto 4, 3) := by decide +kernel
theorem dX5_tests_67 : decode cX5_tests 67 = .ok (.istore_n 3, 1) := by decide +kernel
theorem dX5_tests_68 : decode cX5_tests 68 = .ok (.aload_n 0, 1) := by decide +kernel
theorem dX5_tests_69 : decode cX5_tests 69 = .ok (.aload_n 0, 1) := by decide +kernel
theorem dX5_tests_70 : decode cX5_tests 70 = .ok (.getfield 46, 3) := by decide +kernel
theorem dX5_tests_73 : decode cX5_tests 73 = .ok (.ifCond .ne 7, 3) := by decide +kernel
theorem dX5_tests_76 : decode cX5_tests 76 = .ok (.iload_n 3, 1) := by decide +kernel
theorem dX5_tests_77 : decode cX5_tests 77 = .ok (.ifCond .ne 7, 3) := by decide +kernel
theorem dX5_tests_84 : decode cX5_tests 84 = .ok (.iconst 0, 1) := by decide +kernel
theorem dX5_tests_9 : decode cX5_tests 9 = .ok (.iload_n 1, 1) := by decide +kernel
theorem dX5_tests_10 : decode cX5_tests 10 = .ok (.ifCond .eq 116, 3) := by decide +kernel
theorem dX5_tests_126 : decode cX5_tests 126 = .ok (.return_, 1) := by decide +kernel
theorem dX5_tests_13 : decode cX5_tests 13 = .ok (.iload_n 2, 1) := by decide +kernel
theorem dX5_tests_14 : decode cX5_tests 14 = .ok (.bipush 60, 2) := by decide +kernel
theorem dX5_tests_16 : decode cX5_tests 16 = .ok (.if_icmp .ge 110, 3) := by decide +kernel
theorem dX5_tests_19 : decode cX5_tests 19 = .ok (.aload_n 0, 1) := by decide +kernel
theorem dX5_tests_20 : decode cX5_tests 20 = .ok (.iconst 0, 1) := by decide +kernel
theorem dX5_tests_21 : decode cX5_tests 21 = .ok (.invokevirtual 54, 3) := by decide +kernel
theorem dX5_tests_24 : decode cX5_tests 24 = .ok (.aload_n 0, 1) := by decide +kernel
theorem dX5_tests_25 : decode cX5_tests 25 = .ok (.bipush 60, 2) := by decide +kernel
theorem dX5_tests_27 : decode cX5_tests 27 = .ok (.invokevirtual 64, 3) := by decide +kernel
theorem dX5_tests_30 : decode cX5_tests 30 = .ok (.ifCond .eq 8, 3) := by decide +kernel
theorem dX5_tests_38 : decode cX5_tests 38 = .ok (.aload_n 0, 1) := by decide +kernel
theorem dX5_tests_39 : decode cX5_tests 39 = .ok (.bipush 61, 2) := by decide +kernel
theorem dX5_tests_41 : decode cX5_tests 41 = .ok (.invokevirtual 64, 3) := by decide +kernel
theorem dX5_tests_44 : decode cX5_tests 44 = .ok (.ifCond .eq 8, 3) := by decide +kernel
theorem dX5_tests_52 : decode cX5_tests 52 = .ok (.aload_n 0, 1) := by decide +kernel
theorem dX5_tests_53 : decode cX5_tests 53 = .ok (.bipush 62, 2) := by decide +kernel
theorem dX5_tests_55 : decode cX5_tests 55 = .ok (.invokevirtual 64, 3) := by decide +kernel
theorem dX5_tests_58 : decode cX5_tests 58 = .ok (.ifCond .eq 8, 3) := by decide +kernel
theorem dX5_tests_66 : decode cX5_tests 66 = .ok (.iconst 0, 1) := by decide +kernel
theorem dX5_tests_61 : decode cX5_tests 61 = .ok (.bipush 62, 2) := by decide +kernel
theorem dX5_tests_63 : decode cX5_tests 63 = .ok (.goto 4, 3) := by decide +kernel
theorem dX5_tests_47 : decode cX5_tests 47 = .ok (.bipush 61, 2) := by decide +kernel
theorem dX5_tests_49 : decode cX5_tests 49 = .ok (.goto 18, 3) := by decide +kernel
theorem dX5_tests_33 : decode cX5_tests 33 = .ok (.bipush 60, 2) := by decide +kernel
theorem dX5_tests_35 : decode cX5_tests 35 = .ok (.goto 32, 3) := by decide +kernel
theorem dX5_tests_0 : decode cX5_tests 0 = .ok (.aload_n 0, 1) := by decide +kernel
theorem dX5_tests_1 : decode cX5_tests 1 = .ok (.bipush 63, 2) := by decide +kernel
theorem dX5_tests_3 : decode cX5_tests 3 = .ok (.invokevirtual 64, 3) := by decide +kernel
theorem dX5_tests_6 : decode cX5_tests 6 = .ok (.istore_n 1, 1) := by decide +kernel
theorem dX5_tests_7 : decode cX5_tests 7 = .ok (.iconst 0, 1) := by decide +kernel
theorem dX5_tests_8 : decode cX5_tests 8 = .ok (.istore_n 2, 1) := by decide +kernel
def D_X5_tests_85 (N : Nat) (k9 : mh_H → Nat → Int32 → Int32 → Option mh_H) (h : mh_H) (l0 : Nat) (l2 : Int32) (l3 : Int32) (s0 : Nat) (s1 : Int32) : Option mh_H :=
  (pB h 5 s0 8 s1).bind fun h1 =>
  kO h1 5 l0 <|
  (D_X5_sum N 12 h1 l0 (0 : Int32)).bind fun q2 =>
  (gR q2 5 l0 1).bind fun v3 =>
  kO q2 6 v3 <|
  (D_X6_add N q2 v3 (-l3)).bind fun q4 =>
  (gR q4.2 5 l0 1).bind fun v5 =>
  kO q4.2 6 v5 <|
  (D_X6_add N q4.2 v5 (-38 : Int32)).bind fun q6 =>
  kO q6.2 5 l0 <|
  (D_X5_take N q6.2 l0 (38 : Int32)).bind fun q7 =>
  k9 q7.2 l0 q7.1 (l2 + Int32.ofInt (1))
set_option maxHeartbeats 4000000 in
set_option maxRecDepth 100000 in
theorem T_X5_tests_85 {P : mh_E → Prop} {N d : Nat} (hd : 44 ≤ d) {z : mh_H} {k9 : mh_H → Nat → Int32 → Int32 → Option mh_H} (hk9 : ∀ (h : mh_H) (l0 : Nat) (l1 : Int32) (l2 : Int32), k9 h l0 l1 l2 = some z → mh_go P d mX5_tests 9 [some (.ref l0), some (.int l1), some (.int l2), none] [] h none z) {h : mh_H} {l0 : Nat} {l2 : Int32} {l3 : Int32} {s0 : Nat} {s1 : Int32} (hq : D_X5_tests_85 N k9 h l0 l2 l3 s0 s1 = some z) : mh_go P d mX5_tests 85 [some (.ref l0), none, some (.int l2), some (.int l3)] [.int s1, .ref s0] h none z := by
  unfold D_X5_tests_85 at hq
  refine bd_putb (pc := 85) hq dX5_tests_85 fl_5_46_5 (Or.inl rfl) rfl (fun h1 hq => ?_)
  refine st_aload_n (pc := 88) dX5_tests_88 rfl ?_
  refine st_iconst (pc := 89) (v := (0 : Int32)) dX5_tests_89 rfl ?_
  obtain ⟨⟨hbq2, hkq2⟩, hq⟩ := mh_oi hq
  obtain ⟨q2, e2, hq⟩ := mh_ob hq
  refine st_invV (pc := 90) (ci := 5) (vs := [.int (0 : Int32)]) (rest := []) (st2 := []) dX5_tests_90 okX5_sum (by decide) hkq2 hbq2 wd_706 wd_708 wp_15 pdX5_sum rfl rfl rfl rfl (Nat.le_trans (by decide) hd) (Nat.le_of_ble_eq_true rfl) (T_X5_sum 12 _ (Nat.le_refl _) _ _ _ _ e2) rfl ?_
  refine st_aload_n (pc := 93) dX5_tests_93 rfl ?_
  refine bd_getr (pc := 94) hq dX5_tests_94 fl_5_20_5 rfl (fun v3 hq => ?_)
  refine st_iload_n (pc := 97) dX5_tests_97 rfl ?_
  refine st_ineg (pc := 98) dX5_tests_98 ?_
  obtain ⟨⟨hbq4, hkq4⟩, hq⟩ := mh_oi hq
  obtain ⟨q4, e4, hq⟩ := mh_ob hq
  refine st_invV (pc := 99) (ci := 6) (vs := [.int (-l3)]) (rest := []) (st2 := [.int q4.1]) dX5_tests_99 okX6_add (by decide) hkq4 hbq4 wd_729 wd_688 wd_689 pdX6_add rfl rfl rfl rfl (Nat.le_trans (by decide) hd) (Nat.le_of_ble_eq_true rfl) (T_X6_add (Nat.le_refl _) e4) rfl ?_
  refine st_pop (pc := 102) dX5_tests_102 rfl ?_
  refine st_aload_n (pc := 103) dX5_tests_103 rfl ?_
  refine bd_getr (pc := 104) hq dX5_tests_104 fl_5_20_5 rfl (fun v5 hq => ?_)
  refine st_bipush (pc := 107) (v := (-38 : Int32)) dX5_tests_107 (by decide) ?_
  obtain ⟨⟨hbq6, hkq6⟩, hq⟩ := mh_oi hq
  obtain ⟨q6, e6, hq⟩ := mh_ob hq
  refine st_invV (pc := 109) (ci := 6) (vs := [.int (-38 : Int32)]) (rest := []) (st2 := [.int q6.1]) dX5_tests_109 okX6_add (by decide) hkq6 hbq6 wd_729 wd_688 wd_689 pdX6_add rfl rfl rfl rfl (Nat.le_trans (by decide) hd) (Nat.le_of_ble_eq_true rfl) (T_X6_add (Nat.le_refl _) e6) rfl ?_
  refine st_pop (pc := 112) dX5_tests_112 rfl ?_
  refine st_aload_n (pc := 113) dX5_tests_113 rfl ?_
  refine st_bipush (pc := 114) (v := (38 : Int32)) dX5_tests_114 (by decide) ?_
  obtain ⟨⟨hbq7, hkq7⟩, hq⟩ := mh_oi hq
  obtain ⟨q7, e7, hq⟩ := mh_ob hq
  refine st_invV (pc := 116) (ci := 5) (vs := [.int (38 : Int32)]) (rest := []) (st2 := [.int q7.1]) dX5_tests_116 okX5_take (by decide) hkq7 hbq7 wd_730 wd_732 wp_20 pdX5_take rfl rfl rfl rfl (Nat.le_trans (by decide) hd) (Nat.le_of_ble_eq_true rfl) (T_X5_take (Nat.le_refl _) e7) rfl ?_
  refine st_istore_n (pc := 119) (lv' := [some (.ref l0), some (.int q7.1), some (.int l2), some (.int l3)]) dX5_tests_119 rfl (by decide) rfl ?_
  refine st_iinc (pc := 120) (lv' := [some (.ref l0), some (.int q7.1), some (.int (l2 + Int32.ofInt (1))), some (.int l3)]) dX5_tests_120 rfl rfl (by decide) rfl ?_
  refine st_goto (pc := 123) (tgt := 9) dX5_tests_123 (by decide) ?_
  refine st_lesS (lv' := [some (.ref l0), some (.int q7.1), some (.int (l2 + Int32.ofInt (1))), none]) ⟨Or.inr rfl, Or.inr rfl, Or.inr rfl, Or.inl rfl, trivial⟩ ?_
  exact hk9 _ _ _ _ hq
def D_X5_tests_80 (N : Nat) (k9 : mh_H → Nat → Int32 → Int32 → Option mh_H) (h : mh_H) (l0 : Nat) (l2 : Int32) (l3 : Int32) (s0 : Nat) : Option mh_H :=
  D_X5_tests_85 N k9 h l0 l2 l3 s0 (1 : Int32)
set_option maxHeartbeats 4000000 in
set_option maxRecDepth 100000 in
theorem T_X5_tests_80 {P : mh_E → Prop} {N d : Nat} (hd : 44 ≤ d) {z : mh_H} {k9 : mh_H → Nat → Int32 → Int32 → Option mh_H} (hk9 : ∀ (h : mh_H) (l0 : Nat) (l1 : Int32) (l2 : Int32), k9 h l0 l1 l2 = some z → mh_go P d mX5_tests 9 [some (.ref l0), some (.int l1), some (.int l2), none] [] h none z) {h : mh_H} {l0 : Nat} {l2 : Int32} {l3 : Int32} {s0 : Nat} (hq : D_X5_tests_80 N k9 h l0 l2 l3 s0 = some z) : mh_go P d mX5_tests 80 [some (.ref l0), none, some (.int l2), some (.int l3)] [.ref s0] h none z := by
  unfold D_X5_tests_80 at hq
  refine st_iconst (pc := 80) (v := (1 : Int32)) dX5_tests_80 rfl ?_
  refine st_goto (pc := 81) (tgt := 85) dX5_tests_81 (by decide) ?_
  exact T_X5_tests_85 hd hk9 hq
def D_X5_tests_67 (N : Nat) (k9 : mh_H → Nat → Int32 → Int32 → Option mh_H) (h : mh_H) (l0 : Nat) (l2 : Int32) (s0 : Int32) : Option mh_H :=
  (gI h 5 l0 8).bind fun v1 =>
  if v1 = 0 then (if s0 = 0 then (D_X5_tests_80 N k9 h l0 l2 s0 l0)
  else (D_X5_tests_85 N k9 h l0 l2 s0 l0 (0 : Int32)))
  else (D_X5_tests_80 N k9 h l0 l2 s0 l0)
set_option maxHeartbeats 4000000 in
set_option maxRecDepth 100000 in
theorem T_X5_tests_67 {P : mh_E → Prop} {N d : Nat} (hd : 44 ≤ d) {z : mh_H} {k9 : mh_H → Nat → Int32 → Int32 → Option mh_H} (hk9 : ∀ (h : mh_H) (l0 : Nat) (l1 : Int32) (l2 : Int32), k9 h l0 l1 l2 = some z → mh_go P d mX5_tests 9 [some (.ref l0), some (.int l1), some (.int l2), none] [] h none z) {h : mh_H} {l0 : Nat} {l2 : Int32} {s0 : Int32} (hq : D_X5_tests_67 N k9 h l0 l2 s0 = some z) : mh_go P d mX5_tests 67 [some (.ref l0), none, some (.int l2), none] [.int s0] h none z := by
  unfold D_X5_tests_67 at hq
  refine st_istore_n (pc := 67) (lv' := [some (.ref l0), none, some (.int l2), some (.int s0)]) dX5_tests_67 rfl (by decide) rfl ?_
  refine st_aload_n (pc := 68) dX5_tests_68 rfl ?_
  refine st_aload_n (pc := 69) dX5_tests_69 rfl ?_
  refine bd_geti (pc := 70) hq dX5_tests_70 fl_5_46_5 rfl (fun v1 hq => ?_)
  refine bd_if_ne (pc := 73) (tgt := 80) hq dX5_tests_73 (by decide) (fun _ hq => ?_) (fun _ hq => ?_)
  ·
    refine st_iload_n (pc := 76) dX5_tests_76 rfl ?_
    refine bd_if_ne (pc := 77) (tgt := 84) hq dX5_tests_77 (by decide) (fun _ hq => ?_) (fun _ hq => ?_)
    ·
      exact T_X5_tests_80 hd hk9 hq
    ·
      refine st_iconst (pc := 84) (v := (0 : Int32)) dX5_tests_84 rfl ?_
      exact T_X5_tests_85 hd hk9 hq
  ·
    exact T_X5_tests_80 hd hk9 hq
def D_X5_tests_9 (N : Nat) : Nat → mh_H → Nat → Int32 → Int32 → Option mh_H
  | 0, _, _, _, _ => none
  | F + 1, h, l0, l1, l2 =>
    if l1 = 0 then (some h)
    else (if (60 : Int32) ≤ l2 then (some h)
    else (kO h 5 l0 <|
    (D_X5_sum N 12 h l0 (0 : Int32)).bind fun q1 =>
    kO q1 5 l0 <|
    (D_X5_take N q1 l0 (60 : Int32)).bind fun q2 =>
    if q2.1 = 0 then (kO q2.2 5 l0 <|
    (D_X5_take N q2.2 l0 (61 : Int32)).bind fun q3 =>
    if q3.1 = 0 then (kO q3.2 5 l0 <|
    (D_X5_take N q3.2 l0 (62 : Int32)).bind fun q4 =>
    if q4.1 = 0 then (D_X5_tests_67 N (D_X5_tests_9 N F) q4.2 l0 l2 (0 : Int32))
    else (D_X5_tests_67 N (D_X5_tests_9 N F) q4.2 l0 l2 (62 : Int32)))
    else (D_X5_tests_67 N (D_X5_tests_9 N F) q3.2 l0 l2 (61 : Int32)))
    else (D_X5_tests_67 N (D_X5_tests_9 N F) q2.2 l0 l2 (60 : Int32))))
set_option maxHeartbeats 4000000 in
set_option maxRecDepth 100000 in
theorem T_X5_tests_9 {P : mh_E → Prop} {N d : Nat} (hd : 44 ≤ d) {z : mh_H} : ∀ (F : Nat) (h : mh_H) (l0 : Nat) (l1 : Int32) (l2 : Int32), D_X5_tests_9 N F h l0 l1 l2 = some z → mh_go P d mX5_tests 9 [some (.ref l0), some (.int l1), some (.int l2), none] [] h none z := by
  intro F
  induction F with
  | zero => intro h l0 l1 l2 hq; rw [D_X5_tests_9] at hq; cases hq
  | succ F ih =>
    intro h l0 l1 l2 hq
    rw [D_X5_tests_9] at hq
    refine st_iload_n (pc := 9) dX5_tests_9 rfl ?_
    refine bd_if_eq (pc := 10) (tgt := 126) hq dX5_tests_10 (by decide) (fun _ hq => ?_) (fun _ hq => ?_)
    ·
      exact bd_vret (pc := 126) hq dX5_tests_126 rfl
    ·
      refine st_iload_n (pc := 13) dX5_tests_13 rfl ?_
      refine st_bipush (pc := 14) (v := (60 : Int32)) dX5_tests_14 (by decide) ?_
      refine bd_icmp_ge (pc := 16) (tgt := 126) hq dX5_tests_16 (by decide) (fun _ hq => ?_) (fun _ hq => ?_)
      ·
        exact bd_vret (pc := 126) hq dX5_tests_126 rfl
      ·
        refine st_aload_n (pc := 19) dX5_tests_19 rfl ?_
        refine st_iconst (pc := 20) (v := (0 : Int32)) dX5_tests_20 rfl ?_
        obtain ⟨⟨hbq1, hkq1⟩, hq⟩ := mh_oi hq
        obtain ⟨q1, e1, hq⟩ := mh_ob hq
        refine st_invV (pc := 21) (ci := 5) (vs := [.int (0 : Int32)]) (rest := []) (st2 := []) dX5_tests_21 okX5_sum (by decide) hkq1 hbq1 wd_706 wd_708 wp_15 pdX5_sum rfl rfl rfl rfl (Nat.le_trans (by decide) hd) (Nat.le_of_ble_eq_true rfl) (T_X5_sum 12 _ (Nat.le_refl _) _ _ _ _ e1) rfl ?_
        refine st_aload_n (pc := 24) dX5_tests_24 rfl ?_
        refine st_bipush (pc := 25) (v := (60 : Int32)) dX5_tests_25 (by decide) ?_
        obtain ⟨⟨hbq2, hkq2⟩, hq⟩ := mh_oi hq
        obtain ⟨q2, e2, hq⟩ := mh_ob hq
        refine st_invV (pc := 27) (ci := 5) (vs := [.int (60 : Int32)]) (rest := []) (st2 := [.int q2.1]) dX5_tests_27 okX5_take (by decide) hkq2 hbq2 wd_730 wd_732 wp_20 pdX5_take rfl rfl rfl rfl (Nat.le_trans (by decide) hd) (Nat.le_of_ble_eq_true rfl) (T_X5_take (Nat.le_refl _) e2) rfl ?_
        refine bd_if_eq (pc := 30) (tgt := 38) hq dX5_tests_30 (by decide) (fun _ hq => ?_) (fun _ hq => ?_)
        ·
          refine st_aload_n (pc := 38) dX5_tests_38 rfl ?_
          refine st_bipush (pc := 39) (v := (61 : Int32)) dX5_tests_39 (by decide) ?_
          obtain ⟨⟨hbq3, hkq3⟩, hq⟩ := mh_oi hq
          obtain ⟨q3, e3, hq⟩ := mh_ob hq
          refine st_invV (pc := 41) (ci := 5) (vs := [.int (61 : Int32)]) (rest := []) (st2 := [.int q3.1]) dX5_tests_41 okX5_take (by decide) hkq3 hbq3 wd_730 wd_732 wp_20 pdX5_take rfl rfl rfl rfl (Nat.le_trans (by decide) hd) (Nat.le_of_ble_eq_true rfl) (T_X5_take (Nat.le_refl _) e3) rfl ?_
          refine bd_if_eq (pc := 44) (tgt := 52) hq dX5_tests_44 (by decide) (fun _ hq => ?_) (fun _ hq => ?_)
          ·
            refine st_aload_n (pc := 52) dX5_tests_52 rfl ?_
            refine st_bipush (pc := 53) (v := (62 : Int32)) dX5_tests_53 (by decide) ?_
            obtain ⟨⟨hbq4, hkq4⟩, hq⟩ := mh_oi hq
            obtain ⟨q4, e4, hq⟩ := mh_ob hq
            refine st_invV (pc := 55) (ci := 5) (vs := [.int (62 : Int32)]) (rest := []) (st2 := [.int q4.1]) dX5_tests_55 okX5_take (by decide) hkq4 hbq4 wd_730 wd_732 wp_20 pdX5_take rfl rfl rfl rfl (Nat.le_trans (by decide) hd) (Nat.le_of_ble_eq_true rfl) (T_X5_take (Nat.le_refl _) e4) rfl ?_
            refine bd_if_eq (pc := 58) (tgt := 66) hq dX5_tests_58 (by decide) (fun _ hq => ?_) (fun _ hq => ?_)
            ·
              refine st_iconst (pc := 66) (v := (0 : Int32)) dX5_tests_66 rfl ?_
              refine st_lesS (lv' := [some (.ref l0), none, some (.int l2), none]) ⟨Or.inr rfl, Or.inl rfl, Or.inr rfl, Or.inr rfl, trivial⟩ ?_
              exact T_X5_tests_67 hd ih hq
            ·
              refine st_bipush (pc := 61) (v := (62 : Int32)) dX5_tests_61 (by decide) ?_
              refine st_goto (pc := 63) (tgt := 67) dX5_tests_63 (by decide) ?_
              refine st_lesS (lv' := [some (.ref l0), none, some (.int l2), none]) ⟨Or.inr rfl, Or.inl rfl, Or.inr rfl, Or.inr rfl, trivial⟩ ?_
              exact T_X5_tests_67 hd ih hq
          ·
            refine st_bipush (pc := 47) (v := (61 : Int32)) dX5_tests_47 (by decide) ?_
            refine st_goto (pc := 49) (tgt := 67) dX5_tests_49 (by decide) ?_
            refine st_lesS (lv' := [some (.ref l0), none, some (.int l2), none]) ⟨Or.inr rfl, Or.inl rfl, Or.inr rfl, Or.inr rfl, trivial⟩ ?_
            exact T_X5_tests_67 hd ih hq
        ·
          refine st_bipush (pc := 33) (v := (60 : Int32)) dX5_tests_33 (by decide) ?_
          refine st_goto (pc := 35) (tgt := 67) dX5_tests_35 (by decide) ?_
          refine st_lesS (lv' := [some (.ref l0), none, some (.int l2), none]) ⟨Or.inr rfl, Or.inl rfl, Or.inr rfl, Or.inr rfl, trivial⟩ ?_
          exact T_X5_tests_67 hd ih hq
def D_X5_tests (N : Nat) (h : mh_H) (l0 : Nat) : Option mh_H :=
  kO h 5 l0 <|
  (D_X5_take N h l0 (63 : Int32)).bind fun q1 =>
  D_X5_tests_9 N N q1.2 l0 q1.1 (0 : Int32)
set_option maxHeartbeats 4000000 in
set_option maxRecDepth 100000 in
theorem T_X5_tests {P : mh_E → Prop} {N d : Nat} (hd : 44 ≤ d) {z : mh_H} {h : mh_H} {l0 : Nat} (hq : D_X5_tests N h l0 = some z) : mh_go P d mX5_tests 0 [some (.ref l0), none, none, none] [] h none z := by
  unfold D_X5_tests at hq
  refine st_aload_n (pc := 0) dX5_tests_0 rfl ?_
  refine st_bipush (pc := 1) (v := (63 : Int32)) dX5_tests_1 (by decide) ?_
  obtain ⟨⟨hbq1, hkq1⟩, hq⟩ := mh_oi hq
  obtain ⟨q1, e1, hq⟩ := mh_ob hq
  refine st_invV (pc := 3) (ci := 5) (vs := [.int (63 : Int32)]) (rest := []) (st2 := [.int q1.1]) dX5_tests_3 okX5_take (by decide) hkq1 hbq1 wd_730 wd_732 wp_20 pdX5_take rfl rfl rfl rfl (Nat.le_trans (by decide) hd) (Nat.le_of_ble_eq_true rfl) (T_X5_take (Nat.le_refl _) e1) rfl ?_
  refine st_istore_n (pc := 6) (lv' := [some (.ref l0), some (.int q1.1), none, none]) dX5_tests_6 rfl (by decide) rfl ?_
  refine st_iconst (pc := 7) (v := (0 : Int32)) dX5_tests_7 rfl ?_
  refine st_istore_n (pc := 8) (lv' := [some (.ref l0), some (.int q1.1), some (.int (0 : Int32)), none]) dX5_tests_8 rfl (by decide) rfl ?_
  exact T_X5_tests_9 hd N _ _ _ _ hq
-- HoleWater$Reader.casesOf(LHoleWater$Row;Ljava/lang/String;)I
theorem dX5_casesOf_76 : decode cX5_casesOf 76 = .ok (.bipush (-10), 2) := by decide +kernel
theorem dX5_casesOf_78 : decode cX5_casesOf 78 = .ok (.aload_n 0, 1) := by decide +kernel
theorem dX5_casesOf_79 : decode cX5_casesOf 79 = .ok (.getfield 43, 3) := by decide +kernel
theorem dX5_casesOf_82 : decode cX5_casesOf 82 = .ok (.isub, 1) := by decide +kernel
theorem dX5_casesOf_83 : decode cX5_casesOf 83 = .ok (.ireturn, 1) := by decide +kernel
theorem dX5_casesOf_8 : decode cX5_casesOf 8 = .ok (.iload_n 3, 1) := by decide +kernel
theorem dX5_casesOf_9 : decode cX5_casesOf 9 = .ok (.bipush 6, 2) := by decide +kernel
theorem dX5_casesOf_11 : decode cX5_casesOf 11 = .ok (.if_icmp .gt 79, 3) := by decide +kernel
theorem dX5_casesOf_90 : decode cX5_casesOf 90 = .ok (.bipush (-10), 2) := by decide +kernel
theorem dX5_casesOf_92 : decode cX5_casesOf 92 = .ok (.aload_n 0, 1) := by decide +kernel
theorem dX5_casesOf_93 : decode cX5_casesOf 93 = .ok (.getfield 43, 3) := by decide +kernel
theorem dX5_casesOf_96 : decode cX5_casesOf 96 = .ok (.isub, 1) := by decide +kernel
theorem dX5_casesOf_97 : decode cX5_casesOf 97 = .ok (.ireturn, 1) := by decide +kernel
theorem dX5_casesOf_14 : decode cX5_casesOf 14 = .ok (.aload_n 0, 1) := by decide +kernel
theorem dX5_casesOf_15 : decode cX5_casesOf 15 = .ok (.iconst 0, 1) := by decide +kernel
theorem dX5_casesOf_16 : decode cX5_casesOf 16 = .ok (.invokevirtual 54, 3) := by decide +kernel
theorem dX5_casesOf_19 : decode cX5_casesOf 19 = .ok (.aload_n 0, 1) := by decide +kernel
theorem dX5_casesOf_20 : decode cX5_casesOf 20 = .ok (.invokevirtual 57, 3) := by decide +kernel
theorem dX5_casesOf_23 : decode cX5_casesOf 23 = .ok (.aload_n 0, 1) := by decide +kernel
theorem dX5_casesOf_24 : decode cX5_casesOf 24 = .ok (.getfield 20, 3) := by decide +kernel
theorem dX5_casesOf_27 : decode cX5_casesOf 27 = .ok (.bipush (-59), 2) := by decide +kernel
theorem dX5_casesOf_29 : decode cX5_casesOf 29 = .ok (.invokevirtual 60, 3) := by decide +kernel
theorem dX5_casesOf_32 : decode cX5_casesOf 32 = .ok (.pop, 1) := by decide +kernel
theorem dX5_casesOf_33 : decode cX5_casesOf 33 = .ok (.aload_n 0, 1) := by decide +kernel
theorem dX5_casesOf_34 : decode cX5_casesOf 34 = .ok (.getfield 46, 3) := by decide +kernel
theorem dX5_casesOf_37 : decode cX5_casesOf 37 = .ok (.ifCond .eq 11, 3) := by decide +kernel
theorem dX5_casesOf_48 : decode cX5_casesOf 48 = .ok (.aload_n 0, 1) := by decide +kernel
theorem dX5_casesOf_49 : decode cX5_casesOf 49 = .ok (.getfield 43, 3) := by decide +kernel
theorem dX5_casesOf_52 : decode cX5_casesOf 52 = .ok (.aload_n 0, 1) := by decide +kernel
theorem dX5_casesOf_53 : decode cX5_casesOf 53 = .ok (.getfield 34, 3) := by decide +kernel
theorem dX5_casesOf_56 : decode cX5_casesOf 56 = .ok (.if_icmp .lt 5, 3) := by decide +kernel
theorem dX5_casesOf_61 : decode cX5_casesOf 61 = .ok (.iload_n 3, 1) := by decide +kernel
theorem dX5_casesOf_62 : decode cX5_casesOf 62 = .ok (.bipush 6, 2) := by decide +kernel
theorem dX5_casesOf_64 : decode cX5_casesOf 64 = .ok (.if_icmp .eq 12, 3) := by decide +kernel
theorem dX5_casesOf_67 : decode cX5_casesOf 67 = .ok (.aload_n 0, 1) := by decide +kernel
theorem dX5_casesOf_68 : decode cX5_casesOf 68 = .ok (.bipush 59, 2) := by decide +kernel
theorem dX5_casesOf_70 : decode cX5_casesOf 70 = .ok (.invokevirtual 64, 3) := by decide +kernel
theorem dX5_casesOf_73 : decode cX5_casesOf 73 = .ok (.ifCond .ne 11, 3) := by decide +kernel
theorem dX5_casesOf_84 : decode cX5_casesOf 84 = .ok (.iinc 3 1, 3) := by decide +kernel
theorem dX5_casesOf_87 : decode cX5_casesOf 87 = .ok (.goto (-79), 3) := by decide +kernel
theorem dX5_casesOf_59 : decode cX5_casesOf 59 = .ok (.iload_n 3, 1) := by decide +kernel
theorem dX5_casesOf_60 : decode cX5_casesOf 60 = .ok (.ireturn, 1) := by decide +kernel
theorem dX5_casesOf_40 : decode cX5_casesOf 40 = .ok (.bipush (-10), 2) := by decide +kernel
theorem dX5_casesOf_42 : decode cX5_casesOf 42 = .ok (.aload_n 0, 1) := by decide +kernel
theorem dX5_casesOf_43 : decode cX5_casesOf 43 = .ok (.getfield 43, 3) := by decide +kernel
theorem dX5_casesOf_46 : decode cX5_casesOf 46 = .ok (.isub, 1) := by decide +kernel
theorem dX5_casesOf_47 : decode cX5_casesOf 47 = .ok (.ireturn, 1) := by decide +kernel
theorem dX5_casesOf_0 : decode cX5_casesOf 0 = .ok (.aload_n 0, 1) := by decide +kernel
theorem dX5_casesOf_1 : decode cX5_casesOf 1 = .ok (.aload_n 1, 1) := by decide +kernel
theorem dX5_casesOf_2 : decode cX5_casesOf 2 = .ok (.aload_n 2, 1) := by decide +kernel
theorem dX5_casesOf_3 : decode cX5_casesOf 3 = .ok (.invokevirtual 50, 3) := by decide +kernel
theorem dX5_casesOf_6 : decode cX5_casesOf 6 = .ok (.iconst 1, 1) := by decide +kernel
theorem dX5_casesOf_7 : decode cX5_casesOf 7 = .ok (.istore_n 3, 1) := by decide +kernel
def D_X5_casesOf_76 (N : Nat) (h : mh_H) (l0 : Nat) : Option (Int32 × mh_H) :=
  (gI h 5 l0 7).bind fun v1 =>
  some ((-10 : Int32) - v1, h)
set_option maxHeartbeats 4000000 in
set_option maxRecDepth 100000 in
theorem T_X5_casesOf_76 {P : mh_E → Prop} {N d : Nat} (hd : 45 ≤ d) {z : (Int32 × mh_H)} {h : mh_H} {l0 : Nat} (hq : D_X5_casesOf_76 N h l0 = some z) : mh_go P d mX5_casesOf 76 [some (.ref l0), none, none, none] [] h (some (.int z.1)) z.2 := by
  unfold D_X5_casesOf_76 at hq
  refine st_bipush (pc := 76) (v := (-10 : Int32)) dX5_casesOf_76 (by decide) ?_
  refine st_aload_n (pc := 78) dX5_casesOf_78 rfl ?_
  refine bd_geti (pc := 79) hq dX5_casesOf_79 fl_5_43_5 rfl (fun v1 hq => ?_)
  refine st_isub (pc := 82) dX5_casesOf_82 ?_
  exact bd_iret (pc := 83) hq dX5_casesOf_83 rfl
def D_X5_casesOf_8 (N : Nat) : Nat → mh_H → Nat → Int32 → Option (Int32 × mh_H)
  | 0, _, _, _ => none
  | F + 1, h, l0, l3 =>
    if (6 : Int32) < l3 then ((gI h 5 l0 7).bind fun v1 =>
    some ((-10 : Int32) - v1, h))
    else (kO h 5 l0 <|
    (D_X5_sum N 12 h l0 (0 : Int32)).bind fun q1 =>
    kO q1 5 l0 <|
    (D_X5_tests N q1 l0).bind fun q2 =>
    (gR q2 5 l0 1).bind fun v3 =>
    kO q2 6 v3 <|
    (D_X6_add N q2 v3 (-59 : Int32)).bind fun q4 =>
    (gI q4.2 5 l0 8).bind fun v5 =>
    if v5 = 0 then ((gI q4.2 5 l0 7).bind fun v6 =>
    (gI q4.2 5 l0 5).bind fun v7 =>
    if v6 < v7 then (if l3 = (6 : Int32) then (D_X5_casesOf_76 N q4.2 l0)
    else (kO q4.2 5 l0 <|
    (D_X5_take N q4.2 l0 (59 : Int32)).bind fun q8 =>
    if q8.1 = 0 then (D_X5_casesOf_76 N q8.2 l0)
    else ((D_X5_casesOf_8 N F) q8.2 l0 (l3 + Int32.ofInt (1)))))
    else (some (l3, q4.2)))
    else ((gI q4.2 5 l0 7).bind fun v6 =>
    some ((-10 : Int32) - v6, q4.2)))
set_option maxHeartbeats 4000000 in
set_option maxRecDepth 100000 in
theorem T_X5_casesOf_8 {P : mh_E → Prop} {N d : Nat} (hd : 45 ≤ d) {z : (Int32 × mh_H)} : ∀ (F : Nat) (h : mh_H) (l0 : Nat) (l3 : Int32), D_X5_casesOf_8 N F h l0 l3 = some z → mh_go P d mX5_casesOf 8 [some (.ref l0), none, none, some (.int l3)] [] h (some (.int z.1)) z.2 := by
  intro F
  induction F with
  | zero => intro h l0 l3 hq; rw [D_X5_casesOf_8] at hq; cases hq
  | succ F ih =>
    intro h l0 l3 hq
    rw [D_X5_casesOf_8] at hq
    refine st_iload_n (pc := 8) dX5_casesOf_8 rfl ?_
    refine st_bipush (pc := 9) (v := (6 : Int32)) dX5_casesOf_9 (by decide) ?_
    refine bd_icmp_gt (pc := 11) (tgt := 90) hq dX5_casesOf_11 (by decide) (fun _ hq => ?_) (fun _ hq => ?_)
    ·
      refine st_bipush (pc := 90) (v := (-10 : Int32)) dX5_casesOf_90 (by decide) ?_
      refine st_aload_n (pc := 92) dX5_casesOf_92 rfl ?_
      refine bd_geti (pc := 93) hq dX5_casesOf_93 fl_5_43_5 rfl (fun v1 hq => ?_)
      refine st_isub (pc := 96) dX5_casesOf_96 ?_
      exact bd_iret (pc := 97) hq dX5_casesOf_97 rfl
    ·
      refine st_aload_n (pc := 14) dX5_casesOf_14 rfl ?_
      refine st_iconst (pc := 15) (v := (0 : Int32)) dX5_casesOf_15 rfl ?_
      obtain ⟨⟨hbq1, hkq1⟩, hq⟩ := mh_oi hq
      obtain ⟨q1, e1, hq⟩ := mh_ob hq
      refine st_invV (pc := 16) (ci := 5) (vs := [.int (0 : Int32)]) (rest := []) (st2 := []) dX5_casesOf_16 okX5_sum (by decide) hkq1 hbq1 wd_706 wd_708 wp_15 pdX5_sum rfl rfl rfl rfl (Nat.le_trans (by decide) hd) (Nat.le_of_ble_eq_true rfl) (T_X5_sum 12 _ (Nat.le_refl _) _ _ _ _ e1) rfl ?_
      refine st_aload_n (pc := 19) dX5_casesOf_19 rfl ?_
      obtain ⟨⟨hbq2, hkq2⟩, hq⟩ := mh_oi hq
      obtain ⟨q2, e2, hq⟩ := mh_ob hq
      refine st_invV (pc := 20) (ci := 5) (vs := []) (rest := []) (st2 := []) dX5_casesOf_20 okX5_tests (by decide) hkq2 hbq2 wd_816 wd_818 wp_21 pdX5_tests rfl rfl rfl rfl (Nat.le_trans (by decide) hd) (Nat.le_of_ble_eq_true rfl) (T_X5_tests (Nat.le_refl _) e2) rfl ?_
      refine st_aload_n (pc := 23) dX5_casesOf_23 rfl ?_
      refine bd_getr (pc := 24) hq dX5_casesOf_24 fl_5_20_5 rfl (fun v3 hq => ?_)
      refine st_bipush (pc := 27) (v := (-59 : Int32)) dX5_casesOf_27 (by decide) ?_
      obtain ⟨⟨hbq4, hkq4⟩, hq⟩ := mh_oi hq
      obtain ⟨q4, e4, hq⟩ := mh_ob hq
      refine st_invV (pc := 29) (ci := 6) (vs := [.int (-59 : Int32)]) (rest := []) (st2 := [.int q4.1]) dX5_casesOf_29 okX6_add (by decide) hkq4 hbq4 wd_729 wd_688 wd_689 pdX6_add rfl rfl rfl rfl (Nat.le_trans (by decide) hd) (Nat.le_of_ble_eq_true rfl) (T_X6_add (Nat.le_refl _) e4) rfl ?_
      refine st_pop (pc := 32) dX5_casesOf_32 rfl ?_
      refine st_aload_n (pc := 33) dX5_casesOf_33 rfl ?_
      refine bd_geti (pc := 34) hq dX5_casesOf_34 fl_5_46_5 rfl (fun v5 hq => ?_)
      refine bd_if_eq (pc := 37) (tgt := 48) hq dX5_casesOf_37 (by decide) (fun _ hq => ?_) (fun _ hq => ?_)
      ·
        refine st_aload_n (pc := 48) dX5_casesOf_48 rfl ?_
        refine bd_geti (pc := 49) hq dX5_casesOf_49 fl_5_43_5 rfl (fun v6 hq => ?_)
        refine st_aload_n (pc := 52) dX5_casesOf_52 rfl ?_
        refine bd_geti (pc := 53) hq dX5_casesOf_53 fl_5_34_5 rfl (fun v7 hq => ?_)
        refine bd_icmp_lt (pc := 56) (tgt := 61) hq dX5_casesOf_56 (by decide) (fun _ hq => ?_) (fun _ hq => ?_)
        ·
          refine st_iload_n (pc := 61) dX5_casesOf_61 rfl ?_
          refine st_bipush (pc := 62) (v := (6 : Int32)) dX5_casesOf_62 (by decide) ?_
          refine bd_icmp_eq (pc := 64) (tgt := 76) hq dX5_casesOf_64 (by decide) (fun _ hq => ?_) (fun _ hq => ?_)
          ·
            refine st_lesS (lv' := [some (.ref l0), none, none, none]) ⟨Or.inr rfl, Or.inr rfl, Or.inr rfl, Or.inl rfl, trivial⟩ ?_
            exact T_X5_casesOf_76 hd hq
          ·
            refine st_aload_n (pc := 67) dX5_casesOf_67 rfl ?_
            refine st_bipush (pc := 68) (v := (59 : Int32)) dX5_casesOf_68 (by decide) ?_
            obtain ⟨⟨hbq8, hkq8⟩, hq⟩ := mh_oi hq
            obtain ⟨q8, e8, hq⟩ := mh_ob hq
            refine st_invV (pc := 70) (ci := 5) (vs := [.int (59 : Int32)]) (rest := []) (st2 := [.int q8.1]) dX5_casesOf_70 okX5_take (by decide) hkq8 hbq8 wd_730 wd_732 wp_20 pdX5_take rfl rfl rfl rfl (Nat.le_trans (by decide) hd) (Nat.le_of_ble_eq_true rfl) (T_X5_take (Nat.le_refl _) e8) rfl ?_
            refine bd_if_ne (pc := 73) (tgt := 84) hq dX5_casesOf_73 (by decide) (fun _ hq => ?_) (fun _ hq => ?_)
            ·
              refine st_lesS (lv' := [some (.ref l0), none, none, none]) ⟨Or.inr rfl, Or.inr rfl, Or.inr rfl, Or.inl rfl, trivial⟩ ?_
              exact T_X5_casesOf_76 hd hq
            ·
              refine st_iinc (pc := 84) (lv' := [some (.ref l0), none, none, some (.int (l3 + Int32.ofInt (1)))]) dX5_casesOf_84 rfl rfl (by decide) rfl ?_
              refine st_goto (pc := 87) (tgt := 8) dX5_casesOf_87 (by decide) ?_
              exact ih _ _ _ hq
        ·
          refine st_iload_n (pc := 59) dX5_casesOf_59 rfl ?_
          exact bd_iret (pc := 60) hq dX5_casesOf_60 rfl
      ·
        refine st_bipush (pc := 40) (v := (-10 : Int32)) dX5_casesOf_40 (by decide) ?_
        refine st_aload_n (pc := 42) dX5_casesOf_42 rfl ?_
        refine bd_geti (pc := 43) hq dX5_casesOf_43 fl_5_43_5 rfl (fun v6 hq => ?_)
        refine st_isub (pc := 46) dX5_casesOf_46 ?_
        exact bd_iret (pc := 47) hq dX5_casesOf_47 rfl
def D_X5_casesOf (N : Nat) (h : mh_H) (l0 : Nat) (l1 : Nat) (l2 : Nat) : Option (Int32 × mh_H) :=
  kO h 5 l0 <|
  (D_X5_begin N h l0 l1 l2).bind fun q1 =>
  D_X5_casesOf_8 N N q1 l0 (1 : Int32)
set_option maxHeartbeats 4000000 in
set_option maxRecDepth 100000 in
theorem T_X5_casesOf {P : mh_E → Prop} {N d : Nat} (hd : 45 ≤ d) {z : (Int32 × mh_H)} {h : mh_H} {l0 : Nat} {l1 : Nat} {l2 : Nat} (hq : D_X5_casesOf N h l0 l1 l2 = some z) : mh_go P d mX5_casesOf 0 [some (.ref l0), some (.ref l1), some (.ref l2), none] [] h (some (.int z.1)) z.2 := by
  unfold D_X5_casesOf at hq
  refine st_aload_n (pc := 0) dX5_casesOf_0 rfl ?_
  refine st_aload_n (pc := 1) dX5_casesOf_1 rfl ?_
  refine st_aload_n (pc := 2) dX5_casesOf_2 rfl ?_
  obtain ⟨⟨hbq1, hkq1⟩, hq⟩ := mh_oi hq
  obtain ⟨q1, e1, hq⟩ := mh_ob hq
  refine st_invV (pc := 3) (ci := 5) (vs := [.ref l1, .ref l2]) (rest := []) (st2 := []) dX5_casesOf_3 okX5_begin (by decide) hkq1 hbq1 wd_701 wd_703 wp_14 pdX5_begin rfl rfl rfl rfl (Nat.le_trans (by decide) hd) (Nat.le_of_ble_eq_true rfl) (T_X5_begin (Nat.le_refl _) e1) rfl ?_
  refine st_iconst (pc := 6) (v := (1 : Int32)) dX5_casesOf_6 rfl ?_
  refine st_istore_n (pc := 7) (lv' := [some (.ref l0), some (.ref l1), some (.ref l2), some (.int (1 : Int32))]) dX5_casesOf_7 rfl (by decide) rfl ?_
  refine st_lesS (lv' := [some (.ref l0), none, none, some (.int (1 : Int32))]) ⟨Or.inr rfl, Or.inl rfl, Or.inl rfl, Or.inr rfl, trivial⟩ ?_
  exact T_X5_casesOf_8 hd N _ _ _ hq
-- HoleWater$Row.copyOf(LHoleWater$Row;)V
theorem dX6_copyOf_0 : decode cX6_copyOf 0 = .ok (.aload_n 0, 1) := by decide +kernel
theorem dX6_copyOf_1 : decode cX6_copyOf 1 = .ok (.aload_n 1, 1) := by decide +kernel
theorem dX6_copyOf_2 : decode cX6_copyOf 2 = .ok (.getfield 7, 3) := by decide +kernel
theorem dX6_copyOf_5 : decode cX6_copyOf 5 = .ok (.aload_n 0, 1) := by decide +kernel
theorem dX6_copyOf_6 : decode cX6_copyOf 6 = .ok (.getfield 19, 3) := by decide +kernel
theorem dX6_copyOf_9 : decode cX6_copyOf 9 = .ok (.arraylength, 1) := by decide +kernel
theorem dX6_copyOf_10 : decode cX6_copyOf 10 = .ok (.invokestatic 23, 3) := by decide +kernel
theorem dX6_copyOf_13 : decode cX6_copyOf 13 = .ok (.putfield 7, 3) := by decide +kernel
theorem dX6_copyOf_16 : decode cX6_copyOf 16 = .ok (.aload_n 1, 1) := by decide +kernel
theorem dX6_copyOf_17 : decode cX6_copyOf 17 = .ok (.getfield 19, 3) := by decide +kernel
theorem dX6_copyOf_20 : decode cX6_copyOf 20 = .ok (.iconst 0, 1) := by decide +kernel
theorem dX6_copyOf_21 : decode cX6_copyOf 21 = .ok (.aload_n 0, 1) := by decide +kernel
theorem dX6_copyOf_22 : decode cX6_copyOf 22 = .ok (.getfield 19, 3) := by decide +kernel
theorem dX6_copyOf_25 : decode cX6_copyOf 25 = .ok (.iconst 0, 1) := by decide +kernel
theorem dX6_copyOf_26 : decode cX6_copyOf 26 = .ok (.aload_n 0, 1) := by decide +kernel
theorem dX6_copyOf_27 : decode cX6_copyOf 27 = .ok (.getfield 7, 3) := by decide +kernel
theorem dX6_copyOf_30 : decode cX6_copyOf 30 = .ok (.invokestatic 26, 3) := by decide +kernel
theorem dX6_copyOf_33 : decode cX6_copyOf 33 = .ok (.return_, 1) := by decide +kernel
def D_X6_copyOf (N : Nat) (h : mh_H) (l0 : Nat) (l1 : Nat) : Option mh_H :=
  (gI h 6 l1 1).bind fun v1 =>
  (gR h 6 l0 0).bind fun v2 =>
  (aL h v2).bind fun v3 =>
  (pI h 6 l0 1 (mh_min v1 v3)).bind fun h4 =>
  (gR h4 6 l1 0).bind fun v5 =>
  (gR h4 6 l0 0).bind fun v6 =>
  (gI h4 6 l0 1).bind fun v7 =>
  (cP h4 v5 v6 (0 : Int32) (0 : Int32) v7).bind fun h8 =>
  some h8
set_option maxHeartbeats 4000000 in
set_option maxRecDepth 100000 in
theorem T_X6_copyOf {P : mh_E → Prop} {N d : Nat} (hd : 1 ≤ d) {z : mh_H} {h : mh_H} {l0 : Nat} {l1 : Nat} (hq : D_X6_copyOf N h l0 l1 = some z) : mh_go P d mX6_copyOf 0 [some (.ref l0), some (.ref l1)] [] h none z := by
  unfold D_X6_copyOf at hq
  refine st_aload_n (pc := 0) dX6_copyOf_0 rfl ?_
  refine st_aload_n (pc := 1) dX6_copyOf_1 rfl ?_
  refine bd_geti (pc := 2) hq dX6_copyOf_2 fl_6_7_6 rfl (fun v1 hq => ?_)
  refine st_aload_n (pc := 5) dX6_copyOf_5 rfl ?_
  refine bd_getr (pc := 6) hq dX6_copyOf_6 fl_6_19_6 rfl (fun v2 hq => ?_)
  refine bd_alen (pc := 9) hq dX6_copyOf_9 (fun v3 hq => ?_)
  refine st_mmin (pc := 10) dX6_copyOf_10 wd_824 (Nat.le_trans (by decide) hd) (Nat.le_of_ble_eq_true rfl) ?_
  refine bd_puti (pc := 13) hq dX6_copyOf_13 fl_6_7_6 (Or.inl rfl) rfl (fun h4 hq => ?_)
  refine st_aload_n (pc := 16) dX6_copyOf_16 rfl ?_
  refine bd_getr (pc := 17) hq dX6_copyOf_17 fl_6_19_6 rfl (fun v5 hq => ?_)
  refine st_iconst (pc := 20) (v := (0 : Int32)) dX6_copyOf_20 rfl ?_
  refine st_aload_n (pc := 21) dX6_copyOf_21 rfl ?_
  refine bd_getr (pc := 22) hq dX6_copyOf_22 fl_6_19_6 rfl (fun v6 hq => ?_)
  refine st_iconst (pc := 25) (v := (0 : Int32)) dX6_copyOf_25 rfl ?_
  refine st_aload_n (pc := 26) dX6_copyOf_26 rfl ?_
  refine bd_geti (pc := 27) hq dX6_copyOf_27 fl_6_7_6 rfl (fun v7 hq => ?_)
  refine bd_copy (pc := 30) hq dX6_copyOf_30 wd_825 wd_678 wd_677 wd_16 (Nat.le_trans (by decide) hd) (Nat.le_of_ble_eq_true rfl) (fun h8 hq => ?_)
  exact bd_vret (pc := 33) hq dX6_copyOf_33 rfl
-- HoleWater.text(I)I
theorem dX11_text_78 : decode cX11_text 78 = .ok (.aload_n 0, 1) := by decide +kernel
theorem dX11_text_79 : decode cX11_text 79 = .ok (.getfield 12, 3) := by decide +kernel
theorem dX11_text_82 : decode cX11_text 82 = .ok (.getfield 230, 3) := by decide +kernel
theorem dX11_text_85 : decode cX11_text 85 = .ok (.iconst 0, 1) := by decide +kernel
theorem dX11_text_86 : decode cX11_text 86 = .ok (.putfield 233, 3) := by decide +kernel
theorem dX11_text_89 : decode cX11_text 89 = .ok (.iload_n 2, 1) := by decide +kernel
theorem dX11_text_90 : decode cX11_text 90 = .ok (.ireturn, 1) := by decide +kernel
theorem dX11_text_66 : decode cX11_text 66 = .ok (.astore_n 3, 1) := by decide +kernel
theorem dX11_text_67 : decode cX11_text 67 = .ok (.aload_n 3, 1) := by decide +kernel
theorem dX11_text_68 : decode cX11_text 68 = .ok (.aload_n 0, 1) := by decide +kernel
theorem dX11_text_69 : decode cX11_text 69 = .ok (.getfield 29, 3) := by decide +kernel
theorem dX11_text_72 : decode cX11_text 72 = .ok (.getfield 253, 3) := by decide +kernel
theorem dX11_text_75 : decode cX11_text 75 = .ok (.invokevirtual 256, 3) := by decide +kernel
theorem dX11_text_37 : decode cX11_text 37 = .ok (.invokevirtual 243, 3) := by decide +kernel
theorem dX11_text_40 : decode cX11_text 40 = .ok (.istore_n 2, 1) := by decide +kernel
theorem dX11_text_41 : decode cX11_text 41 = .ok (.iload_n 2, 1) := by decide +kernel
theorem dX11_text_42 : decode cX11_text 42 = .ok (.ifCond .le 36, 3) := by decide +kernel
theorem dX11_text_45 : decode cX11_text 45 = .ok (.iload_n 1, 1) := by decide +kernel
theorem dX11_text_46 : decode cX11_text 46 = .ok (.ifCond .ne 13, 3) := by decide +kernel
theorem dX11_text_49 : decode cX11_text 49 = .ok (.aload_n 0, 1) := by decide +kernel
theorem dX11_text_50 : decode cX11_text 50 = .ok (.getfield 12, 3) := by decide +kernel
theorem dX11_text_53 : decode cX11_text 53 = .ok (.getfield 247, 3) := by decide +kernel
theorem dX11_text_56 : decode cX11_text 56 = .ok (.goto 10, 3) := by decide +kernel
theorem dX11_text_59 : decode cX11_text 59 = .ok (.aload_n 0, 1) := by decide +kernel
theorem dX11_text_60 : decode cX11_text 60 = .ok (.getfield 12, 3) := by decide +kernel
theorem dX11_text_63 : decode cX11_text 63 = .ok (.getfield 250, 3) := by decide +kernel
theorem dX11_text_0 : decode cX11_text 0 = .ok (.iload_n 1, 1) := by decide +kernel
theorem dX11_text_1 : decode cX11_text 1 = .ok (.iconst 0, 1) := by decide +kernel
theorem dX11_text_2 : decode cX11_text 2 = .ok (.iconst 1, 1) := by decide +kernel
theorem dX11_text_3 : decode cX11_text 3 = .ok (.invokestatic 62, 3) := by decide +kernel
theorem dX11_text_6 : decode cX11_text 6 = .ok (.ifCond .ne 9, 3) := by decide +kernel
theorem dX11_text_9 : decode cX11_text 9 = .ok (.aload_n 0, 1) := by decide +kernel
theorem dX11_text_10 : decode cX11_text 10 = .ok (.iconst 1, 1) := by decide +kernel
theorem dX11_text_11 : decode cX11_text 11 = .ok (.invokevirtual 66, 3) := by decide +kernel
theorem dX11_text_14 : decode cX11_text 14 = .ok (.ireturn, 1) := by decide +kernel
theorem dX11_text_15 : decode cX11_text 15 = .ok (.aload_n 0, 1) := by decide +kernel
theorem dX11_text_16 : decode cX11_text 16 = .ok (.getfield 29, 3) := by decide +kernel
theorem dX11_text_19 : decode cX11_text 19 = .ok (.aload_n 0, 1) := by decide +kernel
theorem dX11_text_20 : decode cX11_text 20 = .ok (.getfield 12, 3) := by decide +kernel
theorem dX11_text_23 : decode cX11_text 23 = .ok (.getfield 230, 3) := by decide +kernel
theorem dX11_text_26 : decode cX11_text 26 = .ok (.iload_n 1, 1) := by decide +kernel
theorem dX11_text_27 : decode cX11_text 27 = .ok (.ifCond .ne 8, 3) := by decide +kernel
theorem dX11_text_30 : decode cX11_text 30 = .ok (.ldc 239, 2) := by decide +kernel
theorem dX11_text_32 : decode cX11_text 32 = .ok (.goto 5, 3) := by decide +kernel
theorem dX11_text_35 : decode cX11_text 35 = .ok (.ldc 241, 2) := by decide +kernel
def D_X11_text_78 (N : Nat) (h : mh_H) (l0 : Nat) (l2 : Int32) : Option (Int32 × mh_H) :=
  (gR h 11 l0 0).bind fun v1 =>
  (gR h 10 v1 9).bind fun v2 =>
  (pI h 6 v2 1 (0 : Int32)).bind fun h3 =>
  some (l2, h3)
set_option maxHeartbeats 4000000 in
set_option maxRecDepth 100000 in
theorem T_X11_text_78 {P : mh_E → Prop} {N d : Nat} (hd : 46 ≤ d) {z : (Int32 × mh_H)} {h : mh_H} {l0 : Nat} {l2 : Int32} (hq : D_X11_text_78 N h l0 l2 = some z) : mh_go P d mX11_text 78 [some (.ref l0), none, some (.int l2), none] [] h (some (.int z.1)) z.2 := by
  unfold D_X11_text_78 at hq
  refine st_aload_n (pc := 78) dX11_text_78 rfl ?_
  refine bd_getr (pc := 79) hq dX11_text_79 fl_11_12_11 rfl (fun v1 hq => ?_)
  refine bd_getr (pc := 82) hq dX11_text_82 fl_11_230_10 rfl (fun v2 hq => ?_)
  refine st_iconst (pc := 85) (v := (0 : Int32)) dX11_text_85 rfl ?_
  refine bd_puti (pc := 86) hq dX11_text_86 fl_11_233_6 (Or.inl rfl) rfl (fun h3 hq => ?_)
  refine st_iload_n (pc := 89) dX11_text_89 rfl ?_
  exact bd_iret (pc := 90) hq dX11_text_90 rfl
def D_X11_text_66 (N : Nat) (h : mh_H) (l0 : Nat) (l2 : Int32) (s0 : Nat) : Option (Int32 × mh_H) :=
  (gR h 11 l0 3).bind fun v1 =>
  (gR h 5 v1 1).bind fun v2 =>
  kO h 6 s0 <|
  (D_X6_copyOf N h s0 v2).bind fun q3 =>
  D_X11_text_78 N q3 l0 l2
set_option maxHeartbeats 4000000 in
set_option maxRecDepth 100000 in
theorem T_X11_text_66 {P : mh_E → Prop} {N d : Nat} (hd : 46 ≤ d) {z : (Int32 × mh_H)} {h : mh_H} {l0 : Nat} {l2 : Int32} {s0 : Nat} (hq : D_X11_text_66 N h l0 l2 s0 = some z) : mh_go P d mX11_text 66 [some (.ref l0), none, some (.int l2), none] [.ref s0] h (some (.int z.1)) z.2 := by
  unfold D_X11_text_66 at hq
  refine st_astore_n (pc := 66) (lv' := [some (.ref l0), none, some (.int l2), some (.ref s0)]) dX11_text_66 rfl (by decide) rfl ?_
  refine st_aload_n (pc := 67) dX11_text_67 rfl ?_
  refine st_aload_n (pc := 68) dX11_text_68 rfl ?_
  refine bd_getr (pc := 69) hq dX11_text_69 fl_11_29_11 rfl (fun v1 hq => ?_)
  refine bd_getr (pc := 72) hq dX11_text_72 fl_11_253_5 rfl (fun v2 hq => ?_)
  obtain ⟨⟨hbq3, hkq3⟩, hq⟩ := mh_oi hq
  obtain ⟨q3, e3, hq⟩ := mh_ob hq
  refine st_invV (pc := 75) (ci := 6) (vs := [.ref v2]) (rest := []) (st2 := []) dX11_text_75 okX6_copyOf (by decide) hkq3 hbq3 wd_820 wd_821 wd_822 pdX6_copyOf rfl rfl rfl rfl (Nat.le_trans (by decide) hd) (Nat.le_of_ble_eq_true rfl) (T_X6_copyOf (Nat.le_refl _) e3) rfl ?_
  refine st_lesS (lv' := [some (.ref l0), none, some (.int l2), none]) ⟨Or.inr rfl, Or.inr rfl, Or.inr rfl, Or.inl rfl, trivial⟩ ?_
  exact T_X11_text_78 hd hq
def D_X11_text_37 (N : Nat) (h : mh_H) (l0 : Nat) (l1 : Int32) (s0 : Nat) (s1 : Nat) (s2 : Nat) : Option (Int32 × mh_H) :=
  kO h 5 s0 <|
  (D_X5_casesOf N h s0 s1 s2).bind fun q1 =>
  if q1.1 ≤ 0 then (D_X11_text_78 N q1.2 l0 q1.1)
  else (if l1 = 0 then ((gR q1.2 11 l0 0).bind fun v2 =>
  (gR q1.2 10 v2 10).bind fun v3 =>
  D_X11_text_66 N q1.2 l0 q1.1 v3)
  else ((gR q1.2 11 l0 0).bind fun v2 =>
  (gR q1.2 10 v2 11).bind fun v3 =>
  D_X11_text_66 N q1.2 l0 q1.1 v3))
set_option maxHeartbeats 4000000 in
set_option maxRecDepth 100000 in
theorem T_X11_text_37 {P : mh_E → Prop} {N d : Nat} (hd : 46 ≤ d) {z : (Int32 × mh_H)} {h : mh_H} {l0 : Nat} {l1 : Int32} {s0 : Nat} {s1 : Nat} {s2 : Nat} (hq : D_X11_text_37 N h l0 l1 s0 s1 s2 = some z) : mh_go P d mX11_text 37 [some (.ref l0), some (.int l1), none, none] [.ref s2, .ref s1, .ref s0] h (some (.int z.1)) z.2 := by
  unfold D_X11_text_37 at hq
  obtain ⟨⟨hbq1, hkq1⟩, hq⟩ := mh_oi hq
  obtain ⟨q1, e1, hq⟩ := mh_ob hq
  refine st_invV (pc := 37) (ci := 5) (vs := [.ref s1, .ref s2]) (rest := []) (st2 := [.int q1.1]) dX11_text_37 okX5_casesOf (by decide) hkq1 hbq1 wd_697 wd_698 wd_699 pdX5_casesOf rfl rfl rfl rfl (Nat.le_trans (by decide) hd) (Nat.le_of_ble_eq_true rfl) (T_X5_casesOf (Nat.le_refl _) e1) rfl ?_
  refine st_istore_n (pc := 40) (lv' := [some (.ref l0), some (.int l1), some (.int q1.1), none]) dX11_text_40 rfl (by decide) rfl ?_
  refine st_iload_n (pc := 41) dX11_text_41 rfl ?_
  refine bd_if_le (pc := 42) (tgt := 78) hq dX11_text_42 (by decide) (fun _ hq => ?_) (fun _ hq => ?_)
  ·
    refine st_lesS (lv' := [some (.ref l0), none, some (.int q1.1), none]) ⟨Or.inr rfl, Or.inl rfl, Or.inr rfl, Or.inr rfl, trivial⟩ ?_
    exact T_X11_text_78 hd hq
  ·
    refine st_iload_n (pc := 45) dX11_text_45 rfl ?_
    refine bd_if_ne (pc := 46) (tgt := 59) hq dX11_text_46 (by decide) (fun _ hq => ?_) (fun _ hq => ?_)
    ·
      refine st_aload_n (pc := 49) dX11_text_49 rfl ?_
      refine bd_getr (pc := 50) hq dX11_text_50 fl_11_12_11 rfl (fun v2 hq => ?_)
      refine bd_getr (pc := 53) hq dX11_text_53 fl_11_247_10 rfl (fun v3 hq => ?_)
      refine st_goto (pc := 56) (tgt := 66) dX11_text_56 (by decide) ?_
      refine st_lesS (lv' := [some (.ref l0), none, some (.int q1.1), none]) ⟨Or.inr rfl, Or.inl rfl, Or.inr rfl, Or.inr rfl, trivial⟩ ?_
      exact T_X11_text_66 hd hq
    ·
      refine st_aload_n (pc := 59) dX11_text_59 rfl ?_
      refine bd_getr (pc := 60) hq dX11_text_60 fl_11_12_11 rfl (fun v2 hq => ?_)
      refine bd_getr (pc := 63) hq dX11_text_63 fl_11_250_10 rfl (fun v3 hq => ?_)
      refine st_lesS (lv' := [some (.ref l0), none, some (.int q1.1), none]) ⟨Or.inr rfl, Or.inl rfl, Or.inr rfl, Or.inr rfl, trivial⟩ ?_
      exact T_X11_text_66 hd hq
def D_X11_text (N : Nat) (h : mh_H) (l0 : Nat) (l1 : Int32) : Option (Int32 × mh_H) :=
  (D_X11_within N h l1 (0 : Int32) (1 : Int32)).bind fun q1 =>
  if q1.1 = 0 then (kO q1.2 11 l0 <|
  (D_X11_error N q1.2 l0 (1 : Int32)).bind fun q2 =>
  some (q2.1, q2.2))
  else ((gR q1.2 11 l0 3).bind fun v2 =>
  (gR q1.2 11 l0 0).bind fun v3 =>
  (gR q1.2 10 v3 9).bind fun v4 =>
  if l1 = 0 then (D_X11_text_37 N q1.2 l0 l1 v2 v4 1000000001)
  else (D_X11_text_37 N q1.2 l0 l1 v2 v4 1000000002))
set_option maxHeartbeats 4000000 in
set_option maxRecDepth 100000 in
theorem T_X11_text {P : mh_E → Prop} {N d : Nat} (hd : 46 ≤ d) {z : (Int32 × mh_H)} {h : mh_H} {l0 : Nat} {l1 : Int32} (hq : D_X11_text N h l0 l1 = some z) : mh_go P d mX11_text 0 [some (.ref l0), some (.int l1), none, none] [] h (some (.int z.1)) z.2 := by
  unfold D_X11_text at hq
  refine st_iload_n (pc := 0) dX11_text_0 rfl ?_
  refine st_iconst (pc := 1) (v := (0 : Int32)) dX11_text_1 rfl ?_
  refine st_iconst (pc := 2) (v := (1 : Int32)) dX11_text_2 rfl ?_
  obtain ⟨q1, e1, hq⟩ := mh_ob hq
  refine st_invS (pc := 3) (Y := mX11_within) (vs := [.int l1, .int (0 : Int32), .int (1 : Int32)]) (rest := []) (st2 := [.int q1.1]) dX11_text_3 okX11_within wd_323 wd_324 pdX11_within rfl rfl rfl rfl (Nat.le_trans (by decide) hd) (Nat.le_of_ble_eq_true rfl) (T_X11_within (Nat.le_refl _) e1) rfl ?_
  refine bd_if_ne (pc := 6) (tgt := 15) hq dX11_text_6 (by decide) (fun _ hq => ?_) (fun _ hq => ?_)
  ·
    refine st_aload_n (pc := 9) dX11_text_9 rfl ?_
    refine st_iconst (pc := 10) (v := (1 : Int32)) dX11_text_10 rfl ?_
    obtain ⟨⟨hbq2, hkq2⟩, hq⟩ := mh_oi hq
    obtain ⟨q2, e2, hq⟩ := mh_ob hq
    refine st_invV (pc := 11) (ci := 11) (vs := [.int (1 : Int32)]) (rest := []) (st2 := [.int q2.1]) dX11_text_11 okX11_error (by decide) hkq2 hbq2 wd_326 wd_328 wp_0 pdX11_error rfl rfl rfl rfl (Nat.le_trans (by decide) hd) (Nat.le_of_ble_eq_true rfl) (T_X11_error (Nat.le_refl _) e2) rfl ?_
    exact bd_iret (pc := 14) hq dX11_text_14 rfl
  ·
    refine st_aload_n (pc := 15) dX11_text_15 rfl ?_
    refine bd_getr (pc := 16) hq dX11_text_16 fl_11_29_11 rfl (fun v2 hq => ?_)
    refine st_aload_n (pc := 19) dX11_text_19 rfl ?_
    refine bd_getr (pc := 20) hq dX11_text_20 fl_11_12_11 rfl (fun v3 hq => ?_)
    refine bd_getr (pc := 23) hq dX11_text_23 fl_11_230_10 rfl (fun v4 hq => ?_)
    refine st_iload_n (pc := 26) dX11_text_26 rfl ?_
    refine bd_if_ne (pc := 27) (tgt := 35) hq dX11_text_27 (by decide) (fun _ hq => ?_) (fun _ hq => ?_)
    ·
      refine st_ldcS (pc := 30) (i := 0) (tx := "hdkf") dX11_text_30 (by decide) ?_
      refine st_goto (pc := 32) (tgt := 37) dX11_text_32 (by decide) ?_
      exact T_X11_text_37 hd hq
    ·
      refine st_ldcS (pc := 35) (i := 1) (tx := "wcs") dX11_text_35 (by decide) ?_
      exact T_X11_text_37 hd hq
-- HoleWater.rain(I)I
theorem dX11_rain_0 : decode cX11_rain 0 = .ok (.aload_n 0, 1) := by decide +kernel
theorem dX11_rain_1 : decode cX11_rain 1 = .ok (.getfield 12, 3) := by decide +kernel
theorem dX11_rain_4 : decode cX11_rain 4 = .ok (.iload_n 1, 1) := by decide +kernel
theorem dX11_rain_5 : decode cX11_rain 5 = .ok (.invokevirtual 77, 3) := by decide +kernel
theorem dX11_rain_8 : decode cX11_rain 8 = .ok (.ifCond .ne 9, 3) := by decide +kernel
theorem dX11_rain_11 : decode cX11_rain 11 = .ok (.aload_n 0, 1) := by decide +kernel
theorem dX11_rain_12 : decode cX11_rain 12 = .ok (.iconst 1, 1) := by decide +kernel
theorem dX11_rain_13 : decode cX11_rain 13 = .ok (.invokevirtual 66, 3) := by decide +kernel
theorem dX11_rain_16 : decode cX11_rain 16 = .ok (.ireturn, 1) := by decide +kernel
theorem dX11_rain_17 : decode cX11_rain 17 = .ok (.aload_n 0, 1) := by decide +kernel
theorem dX11_rain_18 : decode cX11_rain 18 = .ok (.getfield 12, 3) := by decide +kernel
theorem dX11_rain_21 : decode cX11_rain 21 = .ok (.iload_n 1, 1) := by decide +kernel
theorem dX11_rain_22 : decode cX11_rain 22 = .ok (.iconst 0, 1) := by decide +kernel
theorem dX11_rain_23 : decode cX11_rain 23 = .ok (.invokevirtual 112, 3) := by decide +kernel
theorem dX11_rain_26 : decode cX11_rain 26 = .ok (.ifCond .eq 25, 3) := by decide +kernel
theorem dX11_rain_51 : decode cX11_rain 51 = .ok (.aload_n 0, 1) := by decide +kernel
theorem dX11_rain_52 : decode cX11_rain 52 = .ok (.iconst 5, 1) := by decide +kernel
theorem dX11_rain_53 : decode cX11_rain 53 = .ok (.invokevirtual 66, 3) := by decide +kernel
theorem dX11_rain_56 : decode cX11_rain 56 = .ok (.ireturn, 1) := by decide +kernel
theorem dX11_rain_29 : decode cX11_rain 29 = .ok (.aload_n 0, 1) := by decide +kernel
theorem dX11_rain_30 : decode cX11_rain 30 = .ok (.getfield 12, 3) := by decide +kernel
theorem dX11_rain_33 : decode cX11_rain 33 = .ok (.iload_n 1, 1) := by decide +kernel
theorem dX11_rain_34 : decode cX11_rain 34 = .ok (.aload_n 0, 1) := by decide +kernel
theorem dX11_rain_35 : decode cX11_rain 35 = .ok (.getfield 12, 3) := by decide +kernel
theorem dX11_rain_38 : decode cX11_rain 38 = .ok (.getfield 90, 3) := by decide +kernel
theorem dX11_rain_41 : decode cX11_rain 41 = .ok (.aload_n 0, 1) := by decide +kernel
theorem dX11_rain_42 : decode cX11_rain 42 = .ok (.getfield 29, 3) := by decide +kernel
theorem dX11_rain_45 : decode cX11_rain 45 = .ok (.invokevirtual 260, 3) := by decide +kernel
theorem dX11_rain_48 : decode cX11_rain 48 = .ok (.goto 8, 3) := by decide +kernel
def D_X11_rain (N : Nat) (h : mh_H) (l0 : Nat) (l1 : Int32) : Option (Int32 × mh_H) :=
  (gR h 11 l0 0).bind fun v1 =>
  kO h 10 v1 <|
  (D_X10_isJoint N h v1 l1).bind fun q2 =>
  if q2.1 = 0 then (kO q2.2 11 l0 <|
  (D_X11_error N q2.2 l0 (1 : Int32)).bind fun q3 =>
  some (q3.1, q3.2))
  else ((gR q2.2 11 l0 0).bind fun v3 =>
  kO q2.2 10 v3 <|
  (D_X10_isOf N q2.2 v3 l1 (0 : Int32)).bind fun q4 =>
  if q4.1 = 0 then (kO q4.2 11 l0 <|
  (D_X11_error N q4.2 l0 (5 : Int32)).bind fun q5 =>
  some (q5.1, q5.2))
  else ((gR q4.2 11 l0 0).bind fun v5 =>
  (gR q4.2 11 l0 0).bind fun v6 =>
  (gR q4.2 10 v6 7).bind fun v7 =>
  (gR q4.2 11 l0 3).bind fun v8 =>
  kO q4.2 10 v5 <|
  (D_X10_rainOn N q4.2 v5 l1 v7 v8).bind fun q9 =>
  some (q9.1, q9.2)))
set_option maxHeartbeats 4000000 in
set_option maxRecDepth 100000 in
theorem T_X11_rain {P : mh_E → Prop} {N d : Nat} (hd : 5 ≤ d) {z : (Int32 × mh_H)} {h : mh_H} {l0 : Nat} {l1 : Int32} (hq : D_X11_rain N h l0 l1 = some z) : mh_go P d mX11_rain 0 [some (.ref l0), some (.int l1)] [] h (some (.int z.1)) z.2 := by
  unfold D_X11_rain at hq
  refine st_aload_n (pc := 0) dX11_rain_0 rfl ?_
  refine bd_getr (pc := 1) hq dX11_rain_1 fl_11_12_11 rfl (fun v1 hq => ?_)
  refine st_iload_n (pc := 4) dX11_rain_4 rfl ?_
  obtain ⟨⟨hbq2, hkq2⟩, hq⟩ := mh_oi hq
  obtain ⟨q2, e2, hq⟩ := mh_ob hq
  refine st_invV (pc := 5) (ci := 10) (vs := [.int l1]) (rest := []) (st2 := [.int q2.1]) dX11_rain_5 okX10_isJoint (by decide) hkq2 hbq2 wd_339 wd_340 wd_341 pdX10_isJoint rfl rfl rfl rfl (Nat.le_trans (by decide) hd) (Nat.le_of_ble_eq_true rfl) (T_X10_isJoint (Nat.le_refl _) e2) rfl ?_
  refine bd_if_ne (pc := 8) (tgt := 17) hq dX11_rain_8 (by decide) (fun _ hq => ?_) (fun _ hq => ?_)
  ·
    refine st_aload_n (pc := 11) dX11_rain_11 rfl ?_
    refine st_iconst (pc := 12) (v := (1 : Int32)) dX11_rain_12 rfl ?_
    obtain ⟨⟨hbq3, hkq3⟩, hq⟩ := mh_oi hq
    obtain ⟨q3, e3, hq⟩ := mh_ob hq
    refine st_invV (pc := 13) (ci := 11) (vs := [.int (1 : Int32)]) (rest := []) (st2 := [.int q3.1]) dX11_rain_13 okX11_error (by decide) hkq3 hbq3 wd_326 wd_328 wp_0 pdX11_error rfl rfl rfl rfl (Nat.le_trans (by decide) hd) (Nat.le_of_ble_eq_true rfl) (T_X11_error (Nat.le_refl _) e3) rfl ?_
    exact bd_iret (pc := 16) hq dX11_rain_16 rfl
  ·
    refine st_aload_n (pc := 17) dX11_rain_17 rfl ?_
    refine bd_getr (pc := 18) hq dX11_rain_18 fl_11_12_11 rfl (fun v3 hq => ?_)
    refine st_iload_n (pc := 21) dX11_rain_21 rfl ?_
    refine st_iconst (pc := 22) (v := (0 : Int32)) dX11_rain_22 rfl ?_
    obtain ⟨⟨hbq4, hkq4⟩, hq⟩ := mh_oi hq
    obtain ⟨q4, e4, hq⟩ := mh_ob hq
    refine st_invV (pc := 23) (ci := 10) (vs := [.int l1, .int (0 : Int32)]) (rest := []) (st2 := [.int q4.1]) dX11_rain_23 okX10_isOf (by decide) hkq4 hbq4 wd_359 wd_355 wd_356 pdX10_isOf rfl rfl rfl rfl (Nat.le_trans (by decide) hd) (Nat.le_of_ble_eq_true rfl) (T_X10_isOf (Nat.le_refl _) e4) rfl ?_
    refine bd_if_eq (pc := 26) (tgt := 51) hq dX11_rain_26 (by decide) (fun _ hq => ?_) (fun _ hq => ?_)
    ·
      refine st_aload_n (pc := 51) dX11_rain_51 rfl ?_
      refine st_iconst (pc := 52) (v := (5 : Int32)) dX11_rain_52 rfl ?_
      obtain ⟨⟨hbq5, hkq5⟩, hq⟩ := mh_oi hq
      obtain ⟨q5, e5, hq⟩ := mh_ob hq
      refine st_invV (pc := 53) (ci := 11) (vs := [.int (5 : Int32)]) (rest := []) (st2 := [.int q5.1]) dX11_rain_53 okX11_error (by decide) hkq5 hbq5 wd_326 wd_328 wp_0 pdX11_error rfl rfl rfl rfl (Nat.le_trans (by decide) hd) (Nat.le_of_ble_eq_true rfl) (T_X11_error (Nat.le_refl _) e5) rfl ?_
      exact bd_iret (pc := 56) hq dX11_rain_56 rfl
    ·
      refine st_aload_n (pc := 29) dX11_rain_29 rfl ?_
      refine bd_getr (pc := 30) hq dX11_rain_30 fl_11_12_11 rfl (fun v5 hq => ?_)
      refine st_iload_n (pc := 33) dX11_rain_33 rfl ?_
      refine st_aload_n (pc := 34) dX11_rain_34 rfl ?_
      refine bd_getr (pc := 35) hq dX11_rain_35 fl_11_12_11 rfl (fun v6 hq => ?_)
      refine bd_getr (pc := 38) hq dX11_rain_38 fl_11_90_10 rfl (fun v7 hq => ?_)
      refine st_aload_n (pc := 41) dX11_rain_41 rfl ?_
      refine bd_getr (pc := 42) hq dX11_rain_42 fl_11_29_11 rfl (fun v8 hq => ?_)
      obtain ⟨⟨hbq9, hkq9⟩, hq⟩ := mh_oi hq
      obtain ⟨q9, e9, hq⟩ := mh_ob hq
      refine st_invV (pc := 45) (ci := 10) (vs := [.int l1, .ref v7, .ref v8]) (rest := []) (st2 := [.int q9.1]) dX11_rain_45 okX10_rainOn (by decide) hkq9 hbq9 wd_830 wd_543 wd_544 pdX10_rainOn rfl rfl rfl rfl (Nat.le_trans (by decide) hd) (Nat.le_of_ble_eq_true rfl) (T_X10_rainOn (Nat.le_refl _) e9) rfl ?_
      refine st_goto (pc := 48) (tgt := 56) dX11_rain_48 (by decide) ?_
      exact bd_iret (pc := 56) hq dX11_rain_56 rfl
-- HoleWater$World.seenAt(IIILHoleWater$Reader;)I
theorem dX10_seenAt_0 : decode cX10_seenAt 0 = .ok (.aload_n 0, 1) := by decide +kernel
theorem dX10_seenAt_1 : decode cX10_seenAt 1 = .ok (.getfield 63, 3) := by decide +kernel
theorem dX10_seenAt_4 : decode cX10_seenAt 4 = .ok (.getfield 113, 3) := by decide +kernel
theorem dX10_seenAt_7 : decode cX10_seenAt 7 = .ok (.ifCond .ne 5, 3) := by decide +kernel
theorem dX10_seenAt_10 : decode cX10_seenAt 10 = .ok (.iconst 5, 1) := by decide +kernel
theorem dX10_seenAt_11 : decode cX10_seenAt 11 = .ok (.ireturn, 1) := by decide +kernel
theorem dX10_seenAt_12 : decode cX10_seenAt 12 = .ok (.aload 4, 2) := by decide +kernel
theorem dX10_seenAt_14 : decode cX10_seenAt 14 = .ok (.getfield 116, 3) := by decide +kernel
theorem dX10_seenAt_17 : decode cX10_seenAt 17 = .ok (.iconst 0, 1) := by decide +kernel
theorem dX10_seenAt_18 : decode cX10_seenAt 18 = .ok (.aload_n 0, 1) := by decide +kernel
theorem dX10_seenAt_19 : decode cX10_seenAt 19 = .ok (.getfield 40, 3) := by decide +kernel
theorem dX10_seenAt_22 : decode cX10_seenAt 22 = .ok (.getfield 133, 3) := by decide +kernel
theorem dX10_seenAt_25 : decode cX10_seenAt 25 = .ok (.iload_n 1, 1) := by decide +kernel
theorem dX10_seenAt_26 : decode cX10_seenAt 26 = .ok (.iaload, 1) := by decide +kernel
theorem dX10_seenAt_27 : decode cX10_seenAt 27 = .ok (.iastore, 1) := by decide +kernel
theorem dX10_seenAt_28 : decode cX10_seenAt 28 = .ok (.aload 4, 2) := by decide +kernel
theorem dX10_seenAt_30 : decode cX10_seenAt 30 = .ok (.getfield 116, 3) := by decide +kernel
theorem dX10_seenAt_33 : decode cX10_seenAt 33 = .ok (.iconst 1, 1) := by decide +kernel
theorem dX10_seenAt_34 : decode cX10_seenAt 34 = .ok (.iload_n 2, 1) := by decide +kernel
theorem dX10_seenAt_35 : decode cX10_seenAt 35 = .ok (.iastore, 1) := by decide +kernel
theorem dX10_seenAt_36 : decode cX10_seenAt 36 = .ok (.aload 4, 2) := by decide +kernel
theorem dX10_seenAt_38 : decode cX10_seenAt 38 = .ok (.getfield 116, 3) := by decide +kernel
theorem dX10_seenAt_41 : decode cX10_seenAt 41 = .ok (.iconst 2, 1) := by decide +kernel
theorem dX10_seenAt_42 : decode cX10_seenAt 42 = .ok (.iload_n 3, 1) := by decide +kernel
theorem dX10_seenAt_43 : decode cX10_seenAt 43 = .ok (.iastore, 1) := by decide +kernel
theorem dX10_seenAt_44 : decode cX10_seenAt 44 = .ok (.aload 4, 2) := by decide +kernel
theorem dX10_seenAt_46 : decode cX10_seenAt 46 = .ok (.aload_n 0, 1) := by decide +kernel
theorem dX10_seenAt_47 : decode cX10_seenAt 47 = .ok (.getfield 63, 3) := by decide +kernel
theorem dX10_seenAt_50 : decode cX10_seenAt 50 = .ok (.invokevirtual 125, 3) := by decide +kernel
theorem dX10_seenAt_53 : decode cX10_seenAt 53 = .ok (.iconst 1, 1) := by decide +kernel
theorem dX10_seenAt_54 : decode cX10_seenAt 54 = .ok (.sipush 9999, 3) := by decide +kernel
theorem dX10_seenAt_57 : decode cX10_seenAt 57 = .ok (.invokestatic 129, 3) := by decide +kernel
theorem dX10_seenAt_60 : decode cX10_seenAt 60 = .ok (.ireturn, 1) := by decide +kernel
def D_X10_seenAt (N : Nat) (h : mh_H) (l0 : Nat) (l1 : Int32) (l2 : Int32) (l3 : Int32) (l4 : Nat) : Option (Int32 × mh_H) :=
  (gR h 10 l0 11).bind fun v1 =>
  (gI h 6 v1 1).bind fun v2 =>
  if v2 = 0 then (some ((5 : Int32), h))
  else ((gR h 5 l4 0).bind fun v3 =>
  (gR h 10 l0 7).bind fun v4 =>
  (gR h 8 v4 8).bind fun v5 =>
  (aI h v5 l1).bind fun v6 =>
  (uI h v3 (0 : Int32) v6).bind fun h7 =>
  (gR h7 5 l4 0).bind fun v8 =>
  (uI h7 v8 (1 : Int32) l2).bind fun h9 =>
  (gR h9 5 l4 0).bind fun v10 =>
  (uI h9 v10 (2 : Int32) l3).bind fun h11 =>
  (gR h11 10 l0 11).bind fun v12 =>
  kO h11 5 l4 <|
  (D_X5_toldBy N h11 l4 v12).bind fun q13 =>
  (D_X11_held N q13.2 q13.1 (1 : Int32) (9999 : Int32)).bind fun q14 =>
  some (q14.1, q14.2))
set_option maxHeartbeats 4000000 in
set_option maxRecDepth 100000 in
theorem T_X10_seenAt {P : mh_E → Prop} {N d : Nat} (hd : 4 ≤ d) {z : (Int32 × mh_H)} {h : mh_H} {l0 : Nat} {l1 : Int32} {l2 : Int32} {l3 : Int32} {l4 : Nat} (hq : D_X10_seenAt N h l0 l1 l2 l3 l4 = some z) : mh_go P d mX10_seenAt 0 [some (.ref l0), some (.int l1), some (.int l2), some (.int l3), some (.ref l4)] [] h (some (.int z.1)) z.2 := by
  unfold D_X10_seenAt at hq
  refine st_aload_n (pc := 0) dX10_seenAt_0 rfl ?_
  refine bd_getr (pc := 1) hq dX10_seenAt_1 fl_10_63_10 rfl (fun v1 hq => ?_)
  refine bd_geti (pc := 4) hq dX10_seenAt_4 fl_10_113_6 rfl (fun v2 hq => ?_)
  refine bd_if_ne (pc := 7) (tgt := 12) hq dX10_seenAt_7 (by decide) (fun _ hq => ?_) (fun _ hq => ?_)
  ·
    refine st_iconst (pc := 10) (v := (5 : Int32)) dX10_seenAt_10 rfl ?_
    exact bd_iret (pc := 11) hq dX10_seenAt_11 rfl
  ·
    refine st_aload (pc := 12) dX10_seenAt_12 rfl ?_
    refine bd_getr (pc := 14) hq dX10_seenAt_14 fl_10_116_5 rfl (fun v3 hq => ?_)
    refine st_iconst (pc := 17) (v := (0 : Int32)) dX10_seenAt_17 rfl ?_
    refine st_aload_n (pc := 18) dX10_seenAt_18 rfl ?_
    refine bd_getr (pc := 19) hq dX10_seenAt_19 fl_10_40_10 rfl (fun v4 hq => ?_)
    refine bd_getr (pc := 22) hq dX10_seenAt_22 fl_10_133_8 rfl (fun v5 hq => ?_)
    refine st_iload_n (pc := 25) dX10_seenAt_25 rfl ?_
    refine bd_iald (pc := 26) hq dX10_seenAt_26 (fun v6 hq => ?_)
    refine bd_iast (pc := 27) hq dX10_seenAt_27 (fun h7 hq => ?_)
    refine st_aload (pc := 28) dX10_seenAt_28 rfl ?_
    refine bd_getr (pc := 30) hq dX10_seenAt_30 fl_10_116_5 rfl (fun v8 hq => ?_)
    refine st_iconst (pc := 33) (v := (1 : Int32)) dX10_seenAt_33 rfl ?_
    refine st_iload_n (pc := 34) dX10_seenAt_34 rfl ?_
    refine bd_iast (pc := 35) hq dX10_seenAt_35 (fun h9 hq => ?_)
    refine st_aload (pc := 36) dX10_seenAt_36 rfl ?_
    refine bd_getr (pc := 38) hq dX10_seenAt_38 fl_10_116_5 rfl (fun v10 hq => ?_)
    refine st_iconst (pc := 41) (v := (2 : Int32)) dX10_seenAt_41 rfl ?_
    refine st_iload_n (pc := 42) dX10_seenAt_42 rfl ?_
    refine bd_iast (pc := 43) hq dX10_seenAt_43 (fun h11 hq => ?_)
    refine st_aload (pc := 44) dX10_seenAt_44 rfl ?_
    refine st_aload_n (pc := 46) dX10_seenAt_46 rfl ?_
    refine bd_getr (pc := 47) hq dX10_seenAt_47 fl_10_63_10 rfl (fun v12 hq => ?_)
    obtain ⟨⟨hbq13, hkq13⟩, hq⟩ := mh_oi hq
    obtain ⟨q13, e13, hq⟩ := mh_ob hq
    refine st_invV (pc := 50) (ci := 5) (vs := [.ref v12]) (rest := []) (st2 := [.int q13.1]) dX10_seenAt_50 okX5_toldBy (by decide) hkq13 hbq13 wd_546 wd_547 wd_548 pdX5_toldBy rfl rfl rfl rfl (Nat.le_trans (by decide) hd) (Nat.le_of_ble_eq_true rfl) (T_X5_toldBy (Nat.le_refl _) e13) rfl ?_
    refine st_iconst (pc := 53) (v := (1 : Int32)) dX10_seenAt_53 rfl ?_
    refine st_sipush (pc := 54) (v := (9999 : Int32)) dX10_seenAt_54 (by decide) ?_
    obtain ⟨q14, e14, hq⟩ := mh_ob hq
    refine st_invSN (pc := 57) (Y := mX11_held) (vs := [.int q13.1, .int (1 : Int32), .int (9999 : Int32)]) (rest := []) (st2 := [.int q14.1]) dX10_seenAt_57 okX11_held wn_570 wd_571 pdX11_held rfl rfl rfl rfl (Nat.le_trans (by decide) hd) (Nat.le_of_ble_eq_true rfl) (T_X11_held (Nat.le_refl _) e14) rfl ?_
    exact bd_iret (pc := 60) hq dX10_seenAt_60 rfl
-- HoleWater.seen(III)I
theorem dX11_seen_27 : decode cX11_seen 27 = .ok (.aload_n 0, 1) := by decide +kernel
theorem dX11_seen_28 : decode cX11_seen 28 = .ok (.iconst 1, 1) := by decide +kernel
theorem dX11_seen_29 : decode cX11_seen 29 = .ok (.invokevirtual 66, 3) := by decide +kernel
theorem dX11_seen_32 : decode cX11_seen 32 = .ok (.ireturn, 1) := by decide +kernel
theorem dX11_seen_0 : decode cX11_seen 0 = .ok (.aload_n 0, 1) := by decide +kernel
theorem dX11_seen_1 : decode cX11_seen 1 = .ok (.getfield 12, 3) := by decide +kernel
theorem dX11_seen_4 : decode cX11_seen 4 = .ok (.iload_n 1, 1) := by decide +kernel
theorem dX11_seen_5 : decode cX11_seen 5 = .ok (.invokevirtual 77, 3) := by decide +kernel
theorem dX11_seen_8 : decode cX11_seen 8 = .ok (.ifCond .eq 19, 3) := by decide +kernel
theorem dX11_seen_11 : decode cX11_seen 11 = .ok (.iload_n 2, 1) := by decide +kernel
theorem dX11_seen_12 : decode cX11_seen 12 = .ok (.invokestatic 183, 3) := by decide +kernel
theorem dX11_seen_15 : decode cX11_seen 15 = .ok (.ifCond .eq 12, 3) := by decide +kernel
theorem dX11_seen_18 : decode cX11_seen 18 = .ok (.iload_n 3, 1) := by decide +kernel
theorem dX11_seen_19 : decode cX11_seen 19 = .ok (.iconst 0, 1) := by decide +kernel
theorem dX11_seen_20 : decode cX11_seen 20 = .ok (.iconst 1, 1) := by decide +kernel
theorem dX11_seen_21 : decode cX11_seen 21 = .ok (.invokestatic 62, 3) := by decide +kernel
theorem dX11_seen_24 : decode cX11_seen 24 = .ok (.ifCond .ne 9, 3) := by decide +kernel
theorem dX11_seen_33 : decode cX11_seen 33 = .ok (.aload_n 0, 1) := by decide +kernel
theorem dX11_seen_34 : decode cX11_seen 34 = .ok (.getfield 12, 3) := by decide +kernel
theorem dX11_seen_37 : decode cX11_seen 37 = .ok (.iload_n 1, 1) := by decide +kernel
theorem dX11_seen_38 : decode cX11_seen 38 = .ok (.iconst 2, 1) := by decide +kernel
theorem dX11_seen_39 : decode cX11_seen 39 = .ok (.invokevirtual 112, 3) := by decide +kernel
theorem dX11_seen_42 : decode cX11_seen 42 = .ok (.ifCond .eq 20, 3) := by decide +kernel
theorem dX11_seen_62 : decode cX11_seen 62 = .ok (.aload_n 0, 1) := by decide +kernel
theorem dX11_seen_63 : decode cX11_seen 63 = .ok (.iconst 5, 1) := by decide +kernel
theorem dX11_seen_64 : decode cX11_seen 64 = .ok (.invokevirtual 66, 3) := by decide +kernel
theorem dX11_seen_67 : decode cX11_seen 67 = .ok (.ireturn, 1) := by decide +kernel
theorem dX11_seen_45 : decode cX11_seen 45 = .ok (.aload_n 0, 1) := by decide +kernel
theorem dX11_seen_46 : decode cX11_seen 46 = .ok (.getfield 12, 3) := by decide +kernel
theorem dX11_seen_49 : decode cX11_seen 49 = .ok (.iload_n 1, 1) := by decide +kernel
theorem dX11_seen_50 : decode cX11_seen 50 = .ok (.iload_n 2, 1) := by decide +kernel
theorem dX11_seen_51 : decode cX11_seen 51 = .ok (.iload_n 3, 1) := by decide +kernel
theorem dX11_seen_52 : decode cX11_seen 52 = .ok (.aload_n 0, 1) := by decide +kernel
theorem dX11_seen_53 : decode cX11_seen 53 = .ok (.getfield 29, 3) := by decide +kernel
theorem dX11_seen_56 : decode cX11_seen 56 = .ok (.invokevirtual 264, 3) := by decide +kernel
theorem dX11_seen_59 : decode cX11_seen 59 = .ok (.goto 8, 3) := by decide +kernel
def D_X11_seen_27 (N : Nat) (h : mh_H) (l0 : Nat) : Option (Int32 × mh_H) :=
  kO h 11 l0 <|
  (D_X11_error N h l0 (1 : Int32)).bind fun q1 =>
  some (q1.1, q1.2)
set_option maxHeartbeats 4000000 in
set_option maxRecDepth 100000 in
theorem T_X11_seen_27 {P : mh_E → Prop} {N d : Nat} (hd : 5 ≤ d) {z : (Int32 × mh_H)} {h : mh_H} {l0 : Nat} (hq : D_X11_seen_27 N h l0 = some z) : mh_go P d mX11_seen 27 [some (.ref l0), none, none, none] [] h (some (.int z.1)) z.2 := by
  unfold D_X11_seen_27 at hq
  refine st_aload_n (pc := 27) dX11_seen_27 rfl ?_
  refine st_iconst (pc := 28) (v := (1 : Int32)) dX11_seen_28 rfl ?_
  obtain ⟨⟨hbq1, hkq1⟩, hq⟩ := mh_oi hq
  obtain ⟨q1, e1, hq⟩ := mh_ob hq
  refine st_invV (pc := 29) (ci := 11) (vs := [.int (1 : Int32)]) (rest := []) (st2 := [.int q1.1]) dX11_seen_29 okX11_error (by decide) hkq1 hbq1 wd_326 wd_328 wp_0 pdX11_error rfl rfl rfl rfl (Nat.le_trans (by decide) hd) (Nat.le_of_ble_eq_true rfl) (T_X11_error (Nat.le_refl _) e1) rfl ?_
  exact bd_iret (pc := 32) hq dX11_seen_32 rfl
def D_X11_seen (N : Nat) (h : mh_H) (l0 : Nat) (l1 : Int32) (l2 : Int32) (l3 : Int32) : Option (Int32 × mh_H) :=
  (gR h 11 l0 0).bind fun v1 =>
  kO h 10 v1 <|
  (D_X10_isJoint N h v1 l1).bind fun q2 =>
  if q2.1 = 0 then (D_X11_seen_27 N q2.2 l0)
  else ((D_X11_isColour N q2.2 l2).bind fun q3 =>
  if q3.1 = 0 then (D_X11_seen_27 N q3.2 l0)
  else ((D_X11_within N q3.2 l3 (0 : Int32) (1 : Int32)).bind fun q4 =>
  if q4.1 = 0 then (D_X11_seen_27 N q4.2 l0)
  else ((gR q4.2 11 l0 0).bind fun v5 =>
  kO q4.2 10 v5 <|
  (D_X10_isOf N q4.2 v5 l1 (2 : Int32)).bind fun q6 =>
  if q6.1 = 0 then (kO q6.2 11 l0 <|
  (D_X11_error N q6.2 l0 (5 : Int32)).bind fun q7 =>
  some (q7.1, q7.2))
  else ((gR q6.2 11 l0 0).bind fun v7 =>
  (gR q6.2 11 l0 3).bind fun v8 =>
  kO q6.2 10 v7 <|
  (D_X10_seenAt N q6.2 v7 l1 l2 l3 v8).bind fun q9 =>
  some (q9.1, q9.2)))))
set_option maxHeartbeats 4000000 in
set_option maxRecDepth 100000 in
theorem T_X11_seen {P : mh_E → Prop} {N d : Nat} (hd : 5 ≤ d) {z : (Int32 × mh_H)} {h : mh_H} {l0 : Nat} {l1 : Int32} {l2 : Int32} {l3 : Int32} (hq : D_X11_seen N h l0 l1 l2 l3 = some z) : mh_go P d mX11_seen 0 [some (.ref l0), some (.int l1), some (.int l2), some (.int l3)] [] h (some (.int z.1)) z.2 := by
  unfold D_X11_seen at hq
  refine st_aload_n (pc := 0) dX11_seen_0 rfl ?_
  refine bd_getr (pc := 1) hq dX11_seen_1 fl_11_12_11 rfl (fun v1 hq => ?_)
  refine st_iload_n (pc := 4) dX11_seen_4 rfl ?_
  obtain ⟨⟨hbq2, hkq2⟩, hq⟩ := mh_oi hq
  obtain ⟨q2, e2, hq⟩ := mh_ob hq
  refine st_invV (pc := 5) (ci := 10) (vs := [.int l1]) (rest := []) (st2 := [.int q2.1]) dX11_seen_5 okX10_isJoint (by decide) hkq2 hbq2 wd_339 wd_340 wd_341 pdX10_isJoint rfl rfl rfl rfl (Nat.le_trans (by decide) hd) (Nat.le_of_ble_eq_true rfl) (T_X10_isJoint (Nat.le_refl _) e2) rfl ?_
  refine bd_if_eq (pc := 8) (tgt := 27) hq dX11_seen_8 (by decide) (fun _ hq => ?_) (fun _ hq => ?_)
  ·
    refine st_lesS (lv' := [some (.ref l0), none, none, none]) ⟨Or.inr rfl, Or.inl rfl, Or.inl rfl, Or.inl rfl, trivial⟩ ?_
    exact T_X11_seen_27 hd hq
  ·
    refine st_iload_n (pc := 11) dX11_seen_11 rfl ?_
    obtain ⟨q3, e3, hq⟩ := mh_ob hq
    refine st_invS (pc := 12) (Y := mX11_isColour) (vs := [.int l2]) (rest := []) (st2 := [.int q3.1]) dX11_seen_12 okX11_isColour wd_506 wd_507 pdX11_isColour rfl rfl rfl rfl (Nat.le_trans (by decide) hd) (Nat.le_of_ble_eq_true rfl) (T_X11_isColour (Nat.le_refl _) e3) rfl ?_
    refine bd_if_eq (pc := 15) (tgt := 27) hq dX11_seen_15 (by decide) (fun _ hq => ?_) (fun _ hq => ?_)
    ·
      refine st_lesS (lv' := [some (.ref l0), none, none, none]) ⟨Or.inr rfl, Or.inl rfl, Or.inl rfl, Or.inl rfl, trivial⟩ ?_
      exact T_X11_seen_27 hd hq
    ·
      refine st_iload_n (pc := 18) dX11_seen_18 rfl ?_
      refine st_iconst (pc := 19) (v := (0 : Int32)) dX11_seen_19 rfl ?_
      refine st_iconst (pc := 20) (v := (1 : Int32)) dX11_seen_20 rfl ?_
      obtain ⟨q4, e4, hq⟩ := mh_ob hq
      refine st_invS (pc := 21) (Y := mX11_within) (vs := [.int l3, .int (0 : Int32), .int (1 : Int32)]) (rest := []) (st2 := [.int q4.1]) dX11_seen_21 okX11_within wd_323 wd_324 pdX11_within rfl rfl rfl rfl (Nat.le_trans (by decide) hd) (Nat.le_of_ble_eq_true rfl) (T_X11_within (Nat.le_refl _) e4) rfl ?_
      refine bd_if_ne (pc := 24) (tgt := 33) hq dX11_seen_24 (by decide) (fun _ hq => ?_) (fun _ hq => ?_)
      ·
        refine st_lesS (lv' := [some (.ref l0), none, none, none]) ⟨Or.inr rfl, Or.inl rfl, Or.inl rfl, Or.inl rfl, trivial⟩ ?_
        exact T_X11_seen_27 hd hq
      ·
        refine st_aload_n (pc := 33) dX11_seen_33 rfl ?_
        refine bd_getr (pc := 34) hq dX11_seen_34 fl_11_12_11 rfl (fun v5 hq => ?_)
        refine st_iload_n (pc := 37) dX11_seen_37 rfl ?_
        refine st_iconst (pc := 38) (v := (2 : Int32)) dX11_seen_38 rfl ?_
        obtain ⟨⟨hbq6, hkq6⟩, hq⟩ := mh_oi hq
        obtain ⟨q6, e6, hq⟩ := mh_ob hq
        refine st_invV (pc := 39) (ci := 10) (vs := [.int l1, .int (2 : Int32)]) (rest := []) (st2 := [.int q6.1]) dX11_seen_39 okX10_isOf (by decide) hkq6 hbq6 wd_359 wd_355 wd_356 pdX10_isOf rfl rfl rfl rfl (Nat.le_trans (by decide) hd) (Nat.le_of_ble_eq_true rfl) (T_X10_isOf (Nat.le_refl _) e6) rfl ?_
        refine bd_if_eq (pc := 42) (tgt := 62) hq dX11_seen_42 (by decide) (fun _ hq => ?_) (fun _ hq => ?_)
        ·
          refine st_aload_n (pc := 62) dX11_seen_62 rfl ?_
          refine st_iconst (pc := 63) (v := (5 : Int32)) dX11_seen_63 rfl ?_
          obtain ⟨⟨hbq7, hkq7⟩, hq⟩ := mh_oi hq
          obtain ⟨q7, e7, hq⟩ := mh_ob hq
          refine st_invV (pc := 64) (ci := 11) (vs := [.int (5 : Int32)]) (rest := []) (st2 := [.int q7.1]) dX11_seen_64 okX11_error (by decide) hkq7 hbq7 wd_326 wd_328 wp_0 pdX11_error rfl rfl rfl rfl (Nat.le_trans (by decide) hd) (Nat.le_of_ble_eq_true rfl) (T_X11_error (Nat.le_refl _) e7) rfl ?_
          exact bd_iret (pc := 67) hq dX11_seen_67 rfl
        ·
          refine st_aload_n (pc := 45) dX11_seen_45 rfl ?_
          refine bd_getr (pc := 46) hq dX11_seen_46 fl_11_12_11 rfl (fun v7 hq => ?_)
          refine st_iload_n (pc := 49) dX11_seen_49 rfl ?_
          refine st_iload_n (pc := 50) dX11_seen_50 rfl ?_
          refine st_iload_n (pc := 51) dX11_seen_51 rfl ?_
          refine st_aload_n (pc := 52) dX11_seen_52 rfl ?_
          refine bd_getr (pc := 53) hq dX11_seen_53 fl_11_29_11 rfl (fun v8 hq => ?_)
          obtain ⟨⟨hbq9, hkq9⟩, hq⟩ := mh_oi hq
          obtain ⟨q9, e9, hq⟩ := mh_ob hq
          refine st_invV (pc := 56) (ci := 10) (vs := [.int l1, .int l2, .int l3, .ref v8]) (rest := []) (st2 := [.int q9.1]) dX11_seen_56 okX10_seenAt (by decide) hkq9 hbq9 wd_835 wd_836 wd_837 pdX10_seenAt rfl rfl rfl rfl (Nat.le_trans (by decide) hd) (Nat.le_of_ble_eq_true rfl) (T_X10_seenAt (Nat.le_refl _) e9) rfl ?_
          refine st_goto (pc := 59) (tgt := 67) dX11_seen_59 (by decide) ?_
          exact bd_iret (pc := 67) hq dX11_seen_67 rfl
-- HoleWater.lookError(II)I
theorem dX11_lookError_0 : decode cX11_lookError 0 = .ok (.aload_n 0, 1) := by decide +kernel
theorem dX11_lookError_1 : decode cX11_lookError 1 = .ok (.getfield 12, 3) := by decide +kernel
theorem dX11_lookError_4 : decode cX11_lookError 4 = .ok (.iload_n 1, 1) := by decide +kernel
theorem dX11_lookError_5 : decode cX11_lookError 5 = .ok (.invokevirtual 77, 3) := by decide +kernel
theorem dX11_lookError_8 : decode cX11_lookError 8 = .ok (.ifCond .eq 10, 3) := by decide +kernel
theorem dX11_lookError_18 : decode cX11_lookError 18 = .ok (.iconst 1, 1) := by decide +kernel
theorem dX11_lookError_19 : decode cX11_lookError 19 = .ok (.ireturn, 1) := by decide +kernel
theorem dX11_lookError_11 : decode cX11_lookError 11 = .ok (.iload_n 2, 1) := by decide +kernel
theorem dX11_lookError_12 : decode cX11_lookError 12 = .ok (.invokestatic 183, 3) := by decide +kernel
theorem dX11_lookError_15 : decode cX11_lookError 15 = .ok (.ifCond .ne 5, 3) := by decide +kernel
theorem dX11_lookError_20 : decode cX11_lookError 20 = .ok (.aload_n 0, 1) := by decide +kernel
theorem dX11_lookError_21 : decode cX11_lookError 21 = .ok (.getfield 12, 3) := by decide +kernel
theorem dX11_lookError_24 : decode cX11_lookError 24 = .ok (.iload_n 1, 1) := by decide +kernel
theorem dX11_lookError_25 : decode cX11_lookError 25 = .ok (.iconst 2, 1) := by decide +kernel
theorem dX11_lookError_26 : decode cX11_lookError 26 = .ok (.invokevirtual 112, 3) := by decide +kernel
theorem dX11_lookError_29 : decode cX11_lookError 29 = .ok (.ifCond .ne 5, 3) := by decide +kernel
theorem dX11_lookError_32 : decode cX11_lookError 32 = .ok (.iconst 5, 1) := by decide +kernel
theorem dX11_lookError_33 : decode cX11_lookError 33 = .ok (.ireturn, 1) := by decide +kernel
theorem dX11_lookError_34 : decode cX11_lookError 34 = .ok (.aload_n 0, 1) := by decide +kernel
theorem dX11_lookError_35 : decode cX11_lookError 35 = .ok (.getfield 12, 3) := by decide +kernel
theorem dX11_lookError_38 : decode cX11_lookError 38 = .ok (.getfield 196, 3) := by decide +kernel
theorem dX11_lookError_41 : decode cX11_lookError 41 = .ok (.getfield 275, 3) := by decide +kernel
theorem dX11_lookError_44 : decode cX11_lookError 44 = .ok (.bipush 60, 2) := by decide +kernel
theorem dX11_lookError_46 : decode cX11_lookError 46 = .ok (.if_icmp .lt 7, 3) := by decide +kernel
theorem dX11_lookError_53 : decode cX11_lookError 53 = .ok (.iconst 0, 1) := by decide +kernel
theorem dX11_lookError_54 : decode cX11_lookError 54 = .ok (.ireturn, 1) := by decide +kernel
theorem dX11_lookError_49 : decode cX11_lookError 49 = .ok (.iconst 4, 1) := by decide +kernel
theorem dX11_lookError_50 : decode cX11_lookError 50 = .ok (.goto 4, 3) := by decide +kernel
def D_X11_lookError (N : Nat) (h : mh_H) (l0 : Nat) (l1 : Int32) (l2 : Int32) : Option (Int32 × mh_H) :=
  (gR h 11 l0 0).bind fun v1 =>
  kO h 10 v1 <|
  (D_X10_isJoint N h v1 l1).bind fun q2 =>
  if q2.1 = 0 then (some ((1 : Int32), q2.2))
  else ((D_X11_isColour N q2.2 l2).bind fun q3 =>
  if q3.1 = 0 then (some ((1 : Int32), q3.2))
  else ((gR q3.2 11 l0 0).bind fun v4 =>
  kO q3.2 10 v4 <|
  (D_X10_isOf N q3.2 v4 l1 (2 : Int32)).bind fun q5 =>
  if q5.1 = 0 then (some ((5 : Int32), q5.2))
  else ((gR q5.2 11 l0 0).bind fun v6 =>
  (gR q5.2 10 v6 8).bind fun v7 =>
  (gI q5.2 1 v7 1).bind fun v8 =>
  if v8 < (60 : Int32) then (some ((0 : Int32), q5.2))
  else (some ((4 : Int32), q5.2)))))
set_option maxHeartbeats 4000000 in
set_option maxRecDepth 100000 in
theorem T_X11_lookError {P : mh_E → Prop} {N d : Nat} (hd : 3 ≤ d) {z : (Int32 × mh_H)} {h : mh_H} {l0 : Nat} {l1 : Int32} {l2 : Int32} (hq : D_X11_lookError N h l0 l1 l2 = some z) : mh_go P d mX11_lookError 0 [some (.ref l0), some (.int l1), some (.int l2)] [] h (some (.int z.1)) z.2 := by
  unfold D_X11_lookError at hq
  refine st_aload_n (pc := 0) dX11_lookError_0 rfl ?_
  refine bd_getr (pc := 1) hq dX11_lookError_1 fl_11_12_11 rfl (fun v1 hq => ?_)
  refine st_iload_n (pc := 4) dX11_lookError_4 rfl ?_
  obtain ⟨⟨hbq2, hkq2⟩, hq⟩ := mh_oi hq
  obtain ⟨q2, e2, hq⟩ := mh_ob hq
  refine st_invV (pc := 5) (ci := 10) (vs := [.int l1]) (rest := []) (st2 := [.int q2.1]) dX11_lookError_5 okX10_isJoint (by decide) hkq2 hbq2 wd_339 wd_340 wd_341 pdX10_isJoint rfl rfl rfl rfl (Nat.le_trans (by decide) hd) (Nat.le_of_ble_eq_true rfl) (T_X10_isJoint (Nat.le_refl _) e2) rfl ?_
  refine bd_if_eq (pc := 8) (tgt := 18) hq dX11_lookError_8 (by decide) (fun _ hq => ?_) (fun _ hq => ?_)
  ·
    refine st_iconst (pc := 18) (v := (1 : Int32)) dX11_lookError_18 rfl ?_
    exact bd_iret (pc := 19) hq dX11_lookError_19 rfl
  ·
    refine st_iload_n (pc := 11) dX11_lookError_11 rfl ?_
    obtain ⟨q3, e3, hq⟩ := mh_ob hq
    refine st_invS (pc := 12) (Y := mX11_isColour) (vs := [.int l2]) (rest := []) (st2 := [.int q3.1]) dX11_lookError_12 okX11_isColour wd_506 wd_507 pdX11_isColour rfl rfl rfl rfl (Nat.le_trans (by decide) hd) (Nat.le_of_ble_eq_true rfl) (T_X11_isColour (Nat.le_refl _) e3) rfl ?_
    refine bd_if_ne (pc := 15) (tgt := 20) hq dX11_lookError_15 (by decide) (fun _ hq => ?_) (fun _ hq => ?_)
    ·
      refine st_iconst (pc := 18) (v := (1 : Int32)) dX11_lookError_18 rfl ?_
      exact bd_iret (pc := 19) hq dX11_lookError_19 rfl
    ·
      refine st_aload_n (pc := 20) dX11_lookError_20 rfl ?_
      refine bd_getr (pc := 21) hq dX11_lookError_21 fl_11_12_11 rfl (fun v4 hq => ?_)
      refine st_iload_n (pc := 24) dX11_lookError_24 rfl ?_
      refine st_iconst (pc := 25) (v := (2 : Int32)) dX11_lookError_25 rfl ?_
      obtain ⟨⟨hbq5, hkq5⟩, hq⟩ := mh_oi hq
      obtain ⟨q5, e5, hq⟩ := mh_ob hq
      refine st_invV (pc := 26) (ci := 10) (vs := [.int l1, .int (2 : Int32)]) (rest := []) (st2 := [.int q5.1]) dX11_lookError_26 okX10_isOf (by decide) hkq5 hbq5 wd_359 wd_355 wd_356 pdX10_isOf rfl rfl rfl rfl (Nat.le_trans (by decide) hd) (Nat.le_of_ble_eq_true rfl) (T_X10_isOf (Nat.le_refl _) e5) rfl ?_
      refine bd_if_ne (pc := 29) (tgt := 34) hq dX11_lookError_29 (by decide) (fun _ hq => ?_) (fun _ hq => ?_)
      ·
        refine st_iconst (pc := 32) (v := (5 : Int32)) dX11_lookError_32 rfl ?_
        exact bd_iret (pc := 33) hq dX11_lookError_33 rfl
      ·
        refine st_aload_n (pc := 34) dX11_lookError_34 rfl ?_
        refine bd_getr (pc := 35) hq dX11_lookError_35 fl_11_12_11 rfl (fun v6 hq => ?_)
        refine bd_getr (pc := 38) hq dX11_lookError_38 fl_11_196_10 rfl (fun v7 hq => ?_)
        refine bd_geti (pc := 41) hq dX11_lookError_41 fl_11_275_1 rfl (fun v8 hq => ?_)
        refine st_bipush (pc := 44) (v := (60 : Int32)) dX11_lookError_44 (by decide) ?_
        refine bd_icmp_lt (pc := 46) (tgt := 53) hq dX11_lookError_46 (by decide) (fun _ hq => ?_) (fun _ hq => ?_)
        ·
          refine st_iconst (pc := 53) (v := (0 : Int32)) dX11_lookError_53 rfl ?_
          exact bd_iret (pc := 54) hq dX11_lookError_54 rfl
        ·
          refine st_iconst (pc := 49) (v := (4 : Int32)) dX11_lookError_49 rfl ?_
          refine st_goto (pc := 50) (tgt := 54) dX11_lookError_50 (by decide) ?_
          exact bd_iret (pc := 54) hq dX11_lookError_54 rfl
-- HoleWater$Looks.putPart(II)I
theorem dX1_putPart_0 : decode cX1_putPart 0 = .ok (.aload_n 0, 1) := by decide +kernel
theorem dX1_putPart_1 : decode cX1_putPart 1 = .ok (.getfield 18, 3) := by decide +kernel
theorem dX1_putPart_4 : decode cX1_putPart 4 = .ok (.iload_n 1, 1) := by decide +kernel
theorem dX1_putPart_5 : decode cX1_putPart 5 = .ok (.iconst 4, 1) := by decide +kernel
theorem dX1_putPart_6 : decode cX1_putPart 6 = .ok (.imul, 1) := by decide +kernel
theorem dX1_putPart_7 : decode cX1_putPart 7 = .ok (.iload_n 2, 1) := by decide +kernel
theorem dX1_putPart_8 : decode cX1_putPart 8 = .ok (.iadd, 1) := by decide +kernel
theorem dX1_putPart_9 : decode cX1_putPart 9 = .ok (.iaload, 1) := by decide +kernel
theorem dX1_putPart_10 : decode cX1_putPart 10 = .ok (.ireturn, 1) := by decide +kernel
def D_X1_putPart (N : Nat) (h : mh_H) (l0 : Nat) (l1 : Int32) (l2 : Int32) : Option (Int32 × mh_H) :=
  (gR h 1 l0 2).bind fun v1 =>
  (aI h v1 ((l1 * (4 : Int32)) + l2)).bind fun v2 =>
  some (v2, h)
set_option maxHeartbeats 4000000 in
set_option maxRecDepth 100000 in
theorem T_X1_putPart {P : mh_E → Prop} {N d : Nat} (hd : 1 ≤ d) {z : (Int32 × mh_H)} {h : mh_H} {l0 : Nat} {l1 : Int32} {l2 : Int32} (hq : D_X1_putPart N h l0 l1 l2 = some z) : mh_go P d mX1_putPart 0 [some (.ref l0), some (.int l1), some (.int l2)] [] h (some (.int z.1)) z.2 := by
  unfold D_X1_putPart at hq
  refine st_aload_n (pc := 0) dX1_putPart_0 rfl ?_
  refine bd_getr (pc := 1) hq dX1_putPart_1 fl_1_18_1 rfl (fun v1 hq => ?_)
  refine st_iload_n (pc := 4) dX1_putPart_4 rfl ?_
  refine st_iconst (pc := 5) (v := (4 : Int32)) dX1_putPart_5 rfl ?_
  refine st_imul (pc := 6) dX1_putPart_6 ?_
  refine st_iload_n (pc := 7) dX1_putPart_7 rfl ?_
  refine st_iadd (pc := 8) dX1_putPart_8 ?_
  refine bd_iald (pc := 9) hq dX1_putPart_9 (fun v2 hq => ?_)
  exact bd_iret (pc := 10) hq dX1_putPart_10 rfl
-- HoleWater$Looks.holesOf(I)I
theorem dX1_holesOf_33 : decode cX1_holesOf 33 = .ok (.iinc 3 1, 3) := by decide +kernel
theorem dX1_holesOf_36 : decode cX1_holesOf 36 = .ok (.goto (-32), 3) := by decide +kernel
theorem dX1_holesOf_4 : decode cX1_holesOf 4 = .ok (.iload_n 3, 1) := by decide +kernel
theorem dX1_holesOf_5 : decode cX1_holesOf 5 = .ok (.aload_n 0, 1) := by decide +kernel
theorem dX1_holesOf_6 : decode cX1_holesOf 6 = .ok (.getfield 9, 3) := by decide +kernel
theorem dX1_holesOf_9 : decode cX1_holesOf 9 = .ok (.if_icmp .ge 30, 3) := by decide +kernel
theorem dX1_holesOf_39 : decode cX1_holesOf 39 = .ok (.iload_n 2, 1) := by decide +kernel
theorem dX1_holesOf_40 : decode cX1_holesOf 40 = .ok (.ireturn, 1) := by decide +kernel
theorem dX1_holesOf_12 : decode cX1_holesOf 12 = .ok (.aload_n 0, 1) := by decide +kernel
theorem dX1_holesOf_13 : decode cX1_holesOf 13 = .ok (.iload_n 3, 1) := by decide +kernel
theorem dX1_holesOf_14 : decode cX1_holesOf 14 = .ok (.iconst 1, 1) := by decide +kernel
theorem dX1_holesOf_15 : decode cX1_holesOf 15 = .ok (.invokevirtual 56, 3) := by decide +kernel
theorem dX1_holesOf_18 : decode cX1_holesOf 18 = .ok (.iload_n 1, 1) := by decide +kernel
theorem dX1_holesOf_19 : decode cX1_holesOf 19 = .ok (.if_icmp .ne 14, 3) := by decide +kernel
theorem dX1_holesOf_22 : decode cX1_holesOf 22 = .ok (.iload_n 2, 1) := by decide +kernel
theorem dX1_holesOf_23 : decode cX1_holesOf 23 = .ok (.iconst 1, 1) := by decide +kernel
theorem dX1_holesOf_24 : decode cX1_holesOf 24 = .ok (.aload_n 0, 1) := by decide +kernel
theorem dX1_holesOf_25 : decode cX1_holesOf 25 = .ok (.iload_n 3, 1) := by decide +kernel
theorem dX1_holesOf_26 : decode cX1_holesOf 26 = .ok (.iconst 0, 1) := by decide +kernel
theorem dX1_holesOf_27 : decode cX1_holesOf 27 = .ok (.invokevirtual 56, 3) := by decide +kernel
theorem dX1_holesOf_30 : decode cX1_holesOf 30 = .ok (.ishl, 1) := by decide +kernel
theorem dX1_holesOf_31 : decode cX1_holesOf 31 = .ok (.ior, 1) := by decide +kernel
theorem dX1_holesOf_32 : decode cX1_holesOf 32 = .ok (.istore_n 2, 1) := by decide +kernel
theorem dX1_holesOf_0 : decode cX1_holesOf 0 = .ok (.iconst 0, 1) := by decide +kernel
theorem dX1_holesOf_1 : decode cX1_holesOf 1 = .ok (.istore_n 2, 1) := by decide +kernel
theorem dX1_holesOf_2 : decode cX1_holesOf 2 = .ok (.iconst 0, 1) := by decide +kernel
theorem dX1_holesOf_3 : decode cX1_holesOf 3 = .ok (.istore_n 3, 1) := by decide +kernel
def D_X1_holesOf_33 (N : Nat) (k4 : mh_H → Nat → Int32 → Int32 → Int32 → Option (Int32 × mh_H)) (h : mh_H) (l0 : Nat) (l1 : Int32) (l2 : Int32) (l3 : Int32) : Option (Int32 × mh_H) :=
  k4 h l0 l1 l2 (l3 + Int32.ofInt (1))
set_option maxHeartbeats 4000000 in
set_option maxRecDepth 100000 in
theorem T_X1_holesOf_33 {P : mh_E → Prop} {N d : Nat} (hd : 2 ≤ d) {z : (Int32 × mh_H)} {k4 : mh_H → Nat → Int32 → Int32 → Int32 → Option (Int32 × mh_H)} (hk4 : ∀ (h : mh_H) (l0 : Nat) (l1 : Int32) (l2 : Int32) (l3 : Int32), k4 h l0 l1 l2 l3 = some z → mh_go P d mX1_holesOf 4 [some (.ref l0), some (.int l1), some (.int l2), some (.int l3)] [] h (some (.int z.1)) z.2) {h : mh_H} {l0 : Nat} {l1 : Int32} {l2 : Int32} {l3 : Int32} (hq : D_X1_holesOf_33 N k4 h l0 l1 l2 l3 = some z) : mh_go P d mX1_holesOf 33 [some (.ref l0), some (.int l1), some (.int l2), some (.int l3)] [] h (some (.int z.1)) z.2 := by
  unfold D_X1_holesOf_33 at hq
  refine st_iinc (pc := 33) (lv' := [some (.ref l0), some (.int l1), some (.int l2), some (.int (l3 + Int32.ofInt (1)))]) dX1_holesOf_33 rfl rfl (by decide) rfl ?_
  refine st_goto (pc := 36) (tgt := 4) dX1_holesOf_36 (by decide) ?_
  exact hk4 _ _ _ _ _ hq
def D_X1_holesOf_4 (N : Nat) : Nat → mh_H → Nat → Int32 → Int32 → Int32 → Option (Int32 × mh_H)
  | 0, _, _, _, _, _ => none
  | F + 1, h, l0, l1, l2, l3 =>
    (gI h 1 l0 0).bind fun v1 =>
    if v1 ≤ l3 then (some (l2, h))
    else (kO h 1 l0 <|
    (D_X1_putPart N h l0 l3 (1 : Int32)).bind fun q2 =>
    if q2.1 = l1 then (kO q2.2 1 l0 <|
    (D_X1_putPart N q2.2 l0 l3 (0 : Int32)).bind fun q3 =>
    D_X1_holesOf_33 N (D_X1_holesOf_4 N F) q3.2 l0 l1 (l2 ||| ((1 : Int32) <<< (q3.1 &&& 31))) l3)
    else (D_X1_holesOf_33 N (D_X1_holesOf_4 N F) q2.2 l0 l1 l2 l3))
set_option maxHeartbeats 4000000 in
set_option maxRecDepth 100000 in
theorem T_X1_holesOf_4 {P : mh_E → Prop} {N d : Nat} (hd : 2 ≤ d) {z : (Int32 × mh_H)} : ∀ (F : Nat) (h : mh_H) (l0 : Nat) (l1 : Int32) (l2 : Int32) (l3 : Int32), D_X1_holesOf_4 N F h l0 l1 l2 l3 = some z → mh_go P d mX1_holesOf 4 [some (.ref l0), some (.int l1), some (.int l2), some (.int l3)] [] h (some (.int z.1)) z.2 := by
  intro F
  induction F with
  | zero => intro h l0 l1 l2 l3 hq; rw [D_X1_holesOf_4] at hq; cases hq
  | succ F ih =>
    intro h l0 l1 l2 l3 hq
    rw [D_X1_holesOf_4] at hq
    refine st_iload_n (pc := 4) dX1_holesOf_4 rfl ?_
    refine st_aload_n (pc := 5) dX1_holesOf_5 rfl ?_
    refine bd_geti (pc := 6) hq dX1_holesOf_6 fl_1_9_1 rfl (fun v1 hq => ?_)
    refine bd_icmp_ge (pc := 9) (tgt := 39) hq dX1_holesOf_9 (by decide) (fun _ hq => ?_) (fun _ hq => ?_)
    ·
      refine st_iload_n (pc := 39) dX1_holesOf_39 rfl ?_
      exact bd_iret (pc := 40) hq dX1_holesOf_40 rfl
    ·
      refine st_aload_n (pc := 12) dX1_holesOf_12 rfl ?_
      refine st_iload_n (pc := 13) dX1_holesOf_13 rfl ?_
      refine st_iconst (pc := 14) (v := (1 : Int32)) dX1_holesOf_14 rfl ?_
      obtain ⟨⟨hbq2, hkq2⟩, hq⟩ := mh_oi hq
      obtain ⟨q2, e2, hq⟩ := mh_ob hq
      refine st_invV (pc := 15) (ci := 1) (vs := [.int l3, .int (1 : Int32)]) (rest := []) (st2 := [.int q2.1]) dX1_holesOf_15 okX1_putPart (by decide) hkq2 hbq2 wd_859 wd_860 wd_861 pdX1_putPart rfl rfl rfl rfl (Nat.le_trans (by decide) hd) (Nat.le_of_ble_eq_true rfl) (T_X1_putPart (Nat.le_refl _) e2) rfl ?_
      refine st_iload_n (pc := 18) dX1_holesOf_18 rfl ?_
      refine bd_icmp_ne (pc := 19) (tgt := 33) hq dX1_holesOf_19 (by decide) (fun _ hq => ?_) (fun _ hq => ?_)
      ·
        refine st_iload_n (pc := 22) dX1_holesOf_22 rfl ?_
        refine st_iconst (pc := 23) (v := (1 : Int32)) dX1_holesOf_23 rfl ?_
        refine st_aload_n (pc := 24) dX1_holesOf_24 rfl ?_
        refine st_iload_n (pc := 25) dX1_holesOf_25 rfl ?_
        refine st_iconst (pc := 26) (v := (0 : Int32)) dX1_holesOf_26 rfl ?_
        obtain ⟨⟨hbq3, hkq3⟩, hq⟩ := mh_oi hq
        obtain ⟨q3, e3, hq⟩ := mh_ob hq
        refine st_invV (pc := 27) (ci := 1) (vs := [.int l3, .int (0 : Int32)]) (rest := [.int (1 : Int32), .int l2]) (st2 := [.int q3.1, .int (1 : Int32), .int l2]) dX1_holesOf_27 okX1_putPart (by decide) hkq3 hbq3 wd_859 wd_860 wd_861 pdX1_putPart rfl rfl rfl rfl (Nat.le_trans (by decide) hd) (Nat.le_of_ble_eq_true rfl) (T_X1_putPart (Nat.le_refl _) e3) rfl ?_
        refine st_ishl (pc := 30) dX1_holesOf_30 ?_
        refine st_ior (pc := 31) dX1_holesOf_31 ?_
        refine st_istore_n (pc := 32) (lv' := [some (.ref l0), some (.int l1), some (.int (l2 ||| ((1 : Int32) <<< (q3.1 &&& 31)))), some (.int l3)]) dX1_holesOf_32 rfl (by decide) rfl ?_
        exact T_X1_holesOf_33 hd ih hq
      ·
        exact T_X1_holesOf_33 hd ih hq
def D_X1_holesOf (N : Nat) (h : mh_H) (l0 : Nat) (l1 : Int32) : Option (Int32 × mh_H) :=
  D_X1_holesOf_4 N N h l0 l1 (0 : Int32) (0 : Int32)
set_option maxHeartbeats 4000000 in
set_option maxRecDepth 100000 in
theorem T_X1_holesOf {P : mh_E → Prop} {N d : Nat} (hd : 2 ≤ d) {z : (Int32 × mh_H)} {h : mh_H} {l0 : Nat} {l1 : Int32} (hq : D_X1_holesOf N h l0 l1 = some z) : mh_go P d mX1_holesOf 0 [some (.ref l0), some (.int l1), none, none] [] h (some (.int z.1)) z.2 := by
  unfold D_X1_holesOf at hq
  refine st_iconst (pc := 0) (v := (0 : Int32)) dX1_holesOf_0 rfl ?_
  refine st_istore_n (pc := 1) (lv' := [some (.ref l0), some (.int l1), some (.int (0 : Int32)), none]) dX1_holesOf_1 rfl (by decide) rfl ?_
  refine st_iconst (pc := 2) (v := (0 : Int32)) dX1_holesOf_2 rfl ?_
  refine st_istore_n (pc := 3) (lv' := [some (.ref l0), some (.int l1), some (.int (0 : Int32)), some (.int (0 : Int32))]) dX1_holesOf_3 rfl (by decide) rfl ?_
  exact T_X1_holesOf_4 hd N _ _ _ _ _ hq
-- HoleWater$Looks.addLook(IIIIZLHoleWater$Water;)V
theorem dX1_addLook_101 : decode cX1_addLook 101 = .ok (.iastore, 1) := by decide +kernel
theorem dX1_addLook_102 : decode cX1_addLook 102 = .ok (.aload_n 0, 1) := by decide +kernel
theorem dX1_addLook_103 : decode cX1_addLook 103 = .ok (.getfield 22, 3) := by decide +kernel
theorem dX1_addLook_106 : decode cX1_addLook 106 = .ok (.iload 7, 2) := by decide +kernel
theorem dX1_addLook_108 : decode cX1_addLook 108 = .ok (.bipush 6, 2) := by decide +kernel
theorem dX1_addLook_110 : decode cX1_addLook 110 = .ok (.iadd, 1) := by decide +kernel
theorem dX1_addLook_111 : decode cX1_addLook 111 = .ok (.iload 4, 2) := by decide +kernel
theorem dX1_addLook_113 : decode cX1_addLook 113 = .ok (.iastore, 1) := by decide +kernel
theorem dX1_addLook_114 : decode cX1_addLook 114 = .ok (.aload_n 0, 1) := by decide +kernel
theorem dX1_addLook_115 : decode cX1_addLook 115 = .ok (.getfield 22, 3) := by decide +kernel
theorem dX1_addLook_118 : decode cX1_addLook 118 = .ok (.iload 7, 2) := by decide +kernel
theorem dX1_addLook_120 : decode cX1_addLook 120 = .ok (.bipush 7, 2) := by decide +kernel
theorem dX1_addLook_122 : decode cX1_addLook 122 = .ok (.iadd, 1) := by decide +kernel
theorem dX1_addLook_123 : decode cX1_addLook 123 = .ok (.aload_n 0, 1) := by decide +kernel
theorem dX1_addLook_124 : decode cX1_addLook 124 = .ok (.iload_n 2, 1) := by decide +kernel
theorem dX1_addLook_125 : decode cX1_addLook 125 = .ok (.invokevirtual 52, 3) := by decide +kernel
theorem dX1_addLook_128 : decode cX1_addLook 128 = .ok (.iastore, 1) := by decide +kernel
theorem dX1_addLook_129 : decode cX1_addLook 129 = .ok (.aload_n 0, 1) := by decide +kernel
theorem dX1_addLook_130 : decode cX1_addLook 130 = .ok (.dup, 1) := by decide +kernel
theorem dX1_addLook_131 : decode cX1_addLook 131 = .ok (.getfield 15, 3) := by decide +kernel
theorem dX1_addLook_134 : decode cX1_addLook 134 = .ok (.iconst 1, 1) := by decide +kernel
theorem dX1_addLook_135 : decode cX1_addLook 135 = .ok (.iadd, 1) := by decide +kernel
theorem dX1_addLook_136 : decode cX1_addLook 136 = .ok (.putfield 15, 3) := by decide +kernel
theorem dX1_addLook_139 : decode cX1_addLook 139 = .ok (.return_, 1) := by decide +kernel
theorem dX1_addLook_79 : decode cX1_addLook 79 = .ok (.iastore, 1) := by decide +kernel
theorem dX1_addLook_80 : decode cX1_addLook 80 = .ok (.aload_n 0, 1) := by decide +kernel
theorem dX1_addLook_81 : decode cX1_addLook 81 = .ok (.getfield 22, 3) := by decide +kernel
theorem dX1_addLook_84 : decode cX1_addLook 84 = .ok (.iload 7, 2) := by decide +kernel
theorem dX1_addLook_86 : decode cX1_addLook 86 = .ok (.iconst 5, 1) := by decide +kernel
theorem dX1_addLook_87 : decode cX1_addLook 87 = .ok (.iadd, 1) := by decide +kernel
theorem dX1_addLook_88 : decode cX1_addLook 88 = .ok (.aload 6, 2) := by decide +kernel
theorem dX1_addLook_90 : decode cX1_addLook 90 = .ok (.getfield 48, 3) := by decide +kernel
theorem dX1_addLook_93 : decode cX1_addLook 93 = .ok (.ifCond .eq 7, 3) := by decide +kernel
theorem dX1_addLook_100 : decode cX1_addLook 100 = .ok (.iconst 0, 1) := by decide +kernel
theorem dX1_addLook_96 : decode cX1_addLook 96 = .ok (.iconst 1, 1) := by decide +kernel
theorem dX1_addLook_97 : decode cX1_addLook 97 = .ok (.goto 4, 3) := by decide +kernel
theorem dX1_addLook_0 : decode cX1_addLook 0 = .ok (.aload_n 0, 1) := by decide +kernel
theorem dX1_addLook_1 : decode cX1_addLook 1 = .ok (.getfield 15, 3) := by decide +kernel
theorem dX1_addLook_4 : decode cX1_addLook 4 = .ok (.bipush 60, 2) := by decide +kernel
theorem dX1_addLook_6 : decode cX1_addLook 6 = .ok (.if_icmp .lt 4, 3) := by decide +kernel
theorem dX1_addLook_10 : decode cX1_addLook 10 = .ok (.aload_n 0, 1) := by decide +kernel
theorem dX1_addLook_11 : decode cX1_addLook 11 = .ok (.getfield 15, 3) := by decide +kernel
theorem dX1_addLook_14 : decode cX1_addLook 14 = .ok (.bipush 8, 2) := by decide +kernel
theorem dX1_addLook_16 : decode cX1_addLook 16 = .ok (.imul, 1) := by decide +kernel
theorem dX1_addLook_17 : decode cX1_addLook 17 = .ok (.istore 7, 2) := by decide +kernel
theorem dX1_addLook_19 : decode cX1_addLook 19 = .ok (.aload_n 0, 1) := by decide +kernel
theorem dX1_addLook_20 : decode cX1_addLook 20 = .ok (.getfield 22, 3) := by decide +kernel
theorem dX1_addLook_23 : decode cX1_addLook 23 = .ok (.iload 7, 2) := by decide +kernel
theorem dX1_addLook_25 : decode cX1_addLook 25 = .ok (.iload_n 1, 1) := by decide +kernel
theorem dX1_addLook_26 : decode cX1_addLook 26 = .ok (.iastore, 1) := by decide +kernel
theorem dX1_addLook_27 : decode cX1_addLook 27 = .ok (.aload_n 0, 1) := by decide +kernel
theorem dX1_addLook_28 : decode cX1_addLook 28 = .ok (.getfield 22, 3) := by decide +kernel
theorem dX1_addLook_31 : decode cX1_addLook 31 = .ok (.iload 7, 2) := by decide +kernel
theorem dX1_addLook_33 : decode cX1_addLook 33 = .ok (.iconst 1, 1) := by decide +kernel
theorem dX1_addLook_34 : decode cX1_addLook 34 = .ok (.iadd, 1) := by decide +kernel
theorem dX1_addLook_35 : decode cX1_addLook 35 = .ok (.iload_n 2, 1) := by decide +kernel
theorem dX1_addLook_36 : decode cX1_addLook 36 = .ok (.iastore, 1) := by decide +kernel
theorem dX1_addLook_37 : decode cX1_addLook 37 = .ok (.aload_n 0, 1) := by decide +kernel
theorem dX1_addLook_38 : decode cX1_addLook 38 = .ok (.getfield 22, 3) := by decide +kernel
theorem dX1_addLook_41 : decode cX1_addLook 41 = .ok (.iload 7, 2) := by decide +kernel
theorem dX1_addLook_43 : decode cX1_addLook 43 = .ok (.iconst 2, 1) := by decide +kernel
theorem dX1_addLook_44 : decode cX1_addLook 44 = .ok (.iadd, 1) := by decide +kernel
theorem dX1_addLook_45 : decode cX1_addLook 45 = .ok (.aload 6, 2) := by decide +kernel
theorem dX1_addLook_47 : decode cX1_addLook 47 = .ok (.getfield 43, 3) := by decide +kernel
theorem dX1_addLook_50 : decode cX1_addLook 50 = .ok (.iastore, 1) := by decide +kernel
theorem dX1_addLook_51 : decode cX1_addLook 51 = .ok (.aload_n 0, 1) := by decide +kernel
theorem dX1_addLook_52 : decode cX1_addLook 52 = .ok (.getfield 22, 3) := by decide +kernel
theorem dX1_addLook_55 : decode cX1_addLook 55 = .ok (.iload 7, 2) := by decide +kernel
theorem dX1_addLook_57 : decode cX1_addLook 57 = .ok (.iconst 3, 1) := by decide +kernel
theorem dX1_addLook_58 : decode cX1_addLook 58 = .ok (.iadd, 1) := by decide +kernel
theorem dX1_addLook_59 : decode cX1_addLook 59 = .ok (.iload_n 3, 1) := by decide +kernel
theorem dX1_addLook_60 : decode cX1_addLook 60 = .ok (.iastore, 1) := by decide +kernel
theorem dX1_addLook_61 : decode cX1_addLook 61 = .ok (.aload_n 0, 1) := by decide +kernel
theorem dX1_addLook_62 : decode cX1_addLook 62 = .ok (.getfield 22, 3) := by decide +kernel
theorem dX1_addLook_65 : decode cX1_addLook 65 = .ok (.iload 7, 2) := by decide +kernel
theorem dX1_addLook_67 : decode cX1_addLook 67 = .ok (.iconst 4, 1) := by decide +kernel
theorem dX1_addLook_68 : decode cX1_addLook 68 = .ok (.iadd, 1) := by decide +kernel
theorem dX1_addLook_69 : decode cX1_addLook 69 = .ok (.iload 5, 2) := by decide +kernel
theorem dX1_addLook_71 : decode cX1_addLook 71 = .ok (.ifCond .eq 7, 3) := by decide +kernel
theorem dX1_addLook_78 : decode cX1_addLook 78 = .ok (.iconst 0, 1) := by decide +kernel
theorem dX1_addLook_74 : decode cX1_addLook 74 = .ok (.iconst 1, 1) := by decide +kernel
theorem dX1_addLook_75 : decode cX1_addLook 75 = .ok (.goto 4, 3) := by decide +kernel
theorem dX1_addLook_9 : decode cX1_addLook 9 = .ok (.return_, 1) := by decide +kernel
def D_X1_addLook_101 (N : Nat) (h : mh_H) (l0 : Nat) (l2 : Int32) (l4 : Int32) (l7 : Int32) (s0 : Nat) (s1 : Int32) (s2 : Int32) : Option mh_H :=
  (uI h s0 s1 s2).bind fun h1 =>
  (gR h1 1 l0 3).bind fun v2 =>
  (uI h1 v2 (l7 + (6 : Int32)) l4).bind fun h3 =>
  (gR h3 1 l0 3).bind fun v4 =>
  kO h3 1 l0 <|
  (D_X1_holesOf N h3 l0 l2).bind fun q5 =>
  (uI q5.2 v4 (l7 + (7 : Int32)) q5.1).bind fun h6 =>
  (gI h6 1 l0 1).bind fun v7 =>
  (pI h6 1 l0 1 (v7 + (1 : Int32))).bind fun h8 =>
  some h8
set_option maxHeartbeats 4000000 in
set_option maxRecDepth 100000 in
theorem T_X1_addLook_101 {P : mh_E → Prop} {N d : Nat} (hd : 3 ≤ d) {z : mh_H} {h : mh_H} {l0 : Nat} {l2 : Int32} {l4 : Int32} {l7 : Int32} {s0 : Nat} {s1 : Int32} {s2 : Int32} (hq : D_X1_addLook_101 N h l0 l2 l4 l7 s0 s1 s2 = some z) : mh_go P d mX1_addLook 101 [some (.ref l0), none, some (.int l2), none, some (.int l4), none, none, some (.int l7)] [.int s2, .int s1, .ref s0] h none z := by
  unfold D_X1_addLook_101 at hq
  refine bd_iast (pc := 101) hq dX1_addLook_101 (fun h1 hq => ?_)
  refine st_aload_n (pc := 102) dX1_addLook_102 rfl ?_
  refine bd_getr (pc := 103) hq dX1_addLook_103 fl_1_22_1 rfl (fun v2 hq => ?_)
  refine st_iload (pc := 106) dX1_addLook_106 rfl ?_
  refine st_bipush (pc := 108) (v := (6 : Int32)) dX1_addLook_108 (by decide) ?_
  refine st_iadd (pc := 110) dX1_addLook_110 ?_
  refine st_iload (pc := 111) dX1_addLook_111 rfl ?_
  refine bd_iast (pc := 113) hq dX1_addLook_113 (fun h3 hq => ?_)
  refine st_aload_n (pc := 114) dX1_addLook_114 rfl ?_
  refine bd_getr (pc := 115) hq dX1_addLook_115 fl_1_22_1 rfl (fun v4 hq => ?_)
  refine st_iload (pc := 118) dX1_addLook_118 rfl ?_
  refine st_bipush (pc := 120) (v := (7 : Int32)) dX1_addLook_120 (by decide) ?_
  refine st_iadd (pc := 122) dX1_addLook_122 ?_
  refine st_aload_n (pc := 123) dX1_addLook_123 rfl ?_
  refine st_iload_n (pc := 124) dX1_addLook_124 rfl ?_
  obtain ⟨⟨hbq5, hkq5⟩, hq⟩ := mh_oi hq
  obtain ⟨q5, e5, hq⟩ := mh_ob hq
  refine st_invV (pc := 125) (ci := 1) (vs := [.int l2]) (rest := [.int (l7 + (7 : Int32)), .ref v4]) (st2 := [.int q5.1, .int (l7 + (7 : Int32)), .ref v4]) dX1_addLook_125 okX1_holesOf (by decide) hkq5 hbq5 wd_855 wd_857 wp_24 pdX1_holesOf rfl rfl rfl rfl (Nat.le_trans (by decide) hd) (Nat.le_of_ble_eq_true rfl) (T_X1_holesOf (Nat.le_refl _) e5) rfl ?_
  refine bd_iast (pc := 128) hq dX1_addLook_128 (fun h6 hq => ?_)
  refine st_aload_n (pc := 129) dX1_addLook_129 rfl ?_
  refine st_dup (pc := 130) dX1_addLook_130 rfl ?_
  refine bd_geti (pc := 131) hq dX1_addLook_131 fl_1_15_1 rfl (fun v7 hq => ?_)
  refine st_iconst (pc := 134) (v := (1 : Int32)) dX1_addLook_134 rfl ?_
  refine st_iadd (pc := 135) dX1_addLook_135 ?_
  refine bd_puti (pc := 136) hq dX1_addLook_136 fl_1_15_1 (Or.inl rfl) rfl (fun h8 hq => ?_)
  exact bd_vret (pc := 139) hq dX1_addLook_139 rfl
def D_X1_addLook_79 (N : Nat) (h : mh_H) (l0 : Nat) (l2 : Int32) (l4 : Int32) (l6 : Nat) (l7 : Int32) (s0 : Nat) (s1 : Int32) (s2 : Int32) : Option mh_H :=
  (uI h s0 s1 s2).bind fun h1 =>
  (gR h1 1 l0 3).bind fun v2 =>
  (gI h1 8 l6 1).bind fun v3 =>
  if v3 = 0 then (D_X1_addLook_101 N h1 l0 l2 l4 l7 v2 (l7 + (5 : Int32)) (0 : Int32))
  else (D_X1_addLook_101 N h1 l0 l2 l4 l7 v2 (l7 + (5 : Int32)) (1 : Int32))
set_option maxHeartbeats 4000000 in
set_option maxRecDepth 100000 in
theorem T_X1_addLook_79 {P : mh_E → Prop} {N d : Nat} (hd : 3 ≤ d) {z : mh_H} {h : mh_H} {l0 : Nat} {l2 : Int32} {l4 : Int32} {l6 : Nat} {l7 : Int32} {s0 : Nat} {s1 : Int32} {s2 : Int32} (hq : D_X1_addLook_79 N h l0 l2 l4 l6 l7 s0 s1 s2 = some z) : mh_go P d mX1_addLook 79 [some (.ref l0), none, some (.int l2), none, some (.int l4), none, some (.ref l6), some (.int l7)] [.int s2, .int s1, .ref s0] h none z := by
  unfold D_X1_addLook_79 at hq
  refine bd_iast (pc := 79) hq dX1_addLook_79 (fun h1 hq => ?_)
  refine st_aload_n (pc := 80) dX1_addLook_80 rfl ?_
  refine bd_getr (pc := 81) hq dX1_addLook_81 fl_1_22_1 rfl (fun v2 hq => ?_)
  refine st_iload (pc := 84) dX1_addLook_84 rfl ?_
  refine st_iconst (pc := 86) (v := (5 : Int32)) dX1_addLook_86 rfl ?_
  refine st_iadd (pc := 87) dX1_addLook_87 ?_
  refine st_aload (pc := 88) dX1_addLook_88 rfl ?_
  refine bd_geti (pc := 90) hq dX1_addLook_90 fl_1_48_8 rfl (fun v3 hq => ?_)
  refine bd_if_eq (pc := 93) (tgt := 100) hq dX1_addLook_93 (by decide) (fun _ hq => ?_) (fun _ hq => ?_)
  ·
    refine st_iconst (pc := 100) (v := (0 : Int32)) dX1_addLook_100 rfl ?_
    refine st_lesS (lv' := [some (.ref l0), none, some (.int l2), none, some (.int l4), none, none, some (.int l7)]) ⟨Or.inr rfl, Or.inr rfl, Or.inr rfl, Or.inr rfl, Or.inr rfl, Or.inr rfl, Or.inl rfl, Or.inr rfl, trivial⟩ ?_
    exact T_X1_addLook_101 hd hq
  ·
    refine st_iconst (pc := 96) (v := (1 : Int32)) dX1_addLook_96 rfl ?_
    refine st_goto (pc := 97) (tgt := 101) dX1_addLook_97 (by decide) ?_
    refine st_lesS (lv' := [some (.ref l0), none, some (.int l2), none, some (.int l4), none, none, some (.int l7)]) ⟨Or.inr rfl, Or.inr rfl, Or.inr rfl, Or.inr rfl, Or.inr rfl, Or.inr rfl, Or.inl rfl, Or.inr rfl, trivial⟩ ?_
    exact T_X1_addLook_101 hd hq
def D_X1_addLook (N : Nat) (h : mh_H) (l0 : Nat) (l1 : Int32) (l2 : Int32) (l3 : Int32) (l4 : Int32) (l5 : Int32) (l6 : Nat) : Option mh_H :=
  (gI h 1 l0 1).bind fun v1 =>
  if v1 < (60 : Int32) then ((gI h 1 l0 1).bind fun v2 =>
  (gR h 1 l0 3).bind fun v3 =>
  (uI h v3 (v2 * (8 : Int32)) l1).bind fun h4 =>
  (gR h4 1 l0 3).bind fun v5 =>
  (uI h4 v5 ((v2 * (8 : Int32)) + (1 : Int32)) l2).bind fun h6 =>
  (gR h6 1 l0 3).bind fun v7 =>
  (gI h6 8 l6 0).bind fun v8 =>
  (uI h6 v7 ((v2 * (8 : Int32)) + (2 : Int32)) v8).bind fun h9 =>
  (gR h9 1 l0 3).bind fun v10 =>
  (uI h9 v10 ((v2 * (8 : Int32)) + (3 : Int32)) l3).bind fun h11 =>
  (gR h11 1 l0 3).bind fun v12 =>
  if l5 = 0 then (D_X1_addLook_79 N h11 l0 l2 l4 l6 (v2 * (8 : Int32)) v12 ((v2 * (8 : Int32)) + (4 : Int32)) (0 : Int32))
  else (D_X1_addLook_79 N h11 l0 l2 l4 l6 (v2 * (8 : Int32)) v12 ((v2 * (8 : Int32)) + (4 : Int32)) (1 : Int32)))
  else (some h)
set_option maxHeartbeats 4000000 in
set_option maxRecDepth 100000 in
theorem T_X1_addLook {P : mh_E → Prop} {N d : Nat} (hd : 3 ≤ d) {z : mh_H} {h : mh_H} {l0 : Nat} {l1 : Int32} {l2 : Int32} {l3 : Int32} {l4 : Int32} {l5 : Int32} {l6 : Nat} (hq : D_X1_addLook N h l0 l1 l2 l3 l4 l5 l6 = some z) : mh_go P d mX1_addLook 0 [some (.ref l0), some (.int l1), some (.int l2), some (.int l3), some (.int l4), some (.int l5), some (.ref l6), none] [] h none z := by
  unfold D_X1_addLook at hq
  refine st_aload_n (pc := 0) dX1_addLook_0 rfl ?_
  refine bd_geti (pc := 1) hq dX1_addLook_1 fl_1_15_1 rfl (fun v1 hq => ?_)
  refine st_bipush (pc := 4) (v := (60 : Int32)) dX1_addLook_4 (by decide) ?_
  refine bd_icmp_lt (pc := 6) (tgt := 10) hq dX1_addLook_6 (by decide) (fun _ hq => ?_) (fun _ hq => ?_)
  ·
    refine st_aload_n (pc := 10) dX1_addLook_10 rfl ?_
    refine bd_geti (pc := 11) hq dX1_addLook_11 fl_1_15_1 rfl (fun v2 hq => ?_)
    refine st_bipush (pc := 14) (v := (8 : Int32)) dX1_addLook_14 (by decide) ?_
    refine st_imul (pc := 16) dX1_addLook_16 ?_
    refine st_istore (pc := 17) (lv' := [some (.ref l0), some (.int l1), some (.int l2), some (.int l3), some (.int l4), some (.int l5), some (.ref l6), some (.int (v2 * (8 : Int32)))]) dX1_addLook_17 rfl (by decide) rfl ?_
    refine st_aload_n (pc := 19) dX1_addLook_19 rfl ?_
    refine bd_getr (pc := 20) hq dX1_addLook_20 fl_1_22_1 rfl (fun v3 hq => ?_)
    refine st_iload (pc := 23) dX1_addLook_23 rfl ?_
    refine st_iload_n (pc := 25) dX1_addLook_25 rfl ?_
    refine bd_iast (pc := 26) hq dX1_addLook_26 (fun h4 hq => ?_)
    refine st_aload_n (pc := 27) dX1_addLook_27 rfl ?_
    refine bd_getr (pc := 28) hq dX1_addLook_28 fl_1_22_1 rfl (fun v5 hq => ?_)
    refine st_iload (pc := 31) dX1_addLook_31 rfl ?_
    refine st_iconst (pc := 33) (v := (1 : Int32)) dX1_addLook_33 rfl ?_
    refine st_iadd (pc := 34) dX1_addLook_34 ?_
    refine st_iload_n (pc := 35) dX1_addLook_35 rfl ?_
    refine bd_iast (pc := 36) hq dX1_addLook_36 (fun h6 hq => ?_)
    refine st_aload_n (pc := 37) dX1_addLook_37 rfl ?_
    refine bd_getr (pc := 38) hq dX1_addLook_38 fl_1_22_1 rfl (fun v7 hq => ?_)
    refine st_iload (pc := 41) dX1_addLook_41 rfl ?_
    refine st_iconst (pc := 43) (v := (2 : Int32)) dX1_addLook_43 rfl ?_
    refine st_iadd (pc := 44) dX1_addLook_44 ?_
    refine st_aload (pc := 45) dX1_addLook_45 rfl ?_
    refine bd_geti (pc := 47) hq dX1_addLook_47 fl_1_43_8 rfl (fun v8 hq => ?_)
    refine bd_iast (pc := 50) hq dX1_addLook_50 (fun h9 hq => ?_)
    refine st_aload_n (pc := 51) dX1_addLook_51 rfl ?_
    refine bd_getr (pc := 52) hq dX1_addLook_52 fl_1_22_1 rfl (fun v10 hq => ?_)
    refine st_iload (pc := 55) dX1_addLook_55 rfl ?_
    refine st_iconst (pc := 57) (v := (3 : Int32)) dX1_addLook_57 rfl ?_
    refine st_iadd (pc := 58) dX1_addLook_58 ?_
    refine st_iload_n (pc := 59) dX1_addLook_59 rfl ?_
    refine bd_iast (pc := 60) hq dX1_addLook_60 (fun h11 hq => ?_)
    refine st_aload_n (pc := 61) dX1_addLook_61 rfl ?_
    refine bd_getr (pc := 62) hq dX1_addLook_62 fl_1_22_1 rfl (fun v12 hq => ?_)
    refine st_iload (pc := 65) dX1_addLook_65 rfl ?_
    refine st_iconst (pc := 67) (v := (4 : Int32)) dX1_addLook_67 rfl ?_
    refine st_iadd (pc := 68) dX1_addLook_68 ?_
    refine st_iload (pc := 69) dX1_addLook_69 rfl ?_
    refine bd_if_eq (pc := 71) (tgt := 78) hq dX1_addLook_71 (by decide) (fun _ hq => ?_) (fun _ hq => ?_)
    ·
      refine st_iconst (pc := 78) (v := (0 : Int32)) dX1_addLook_78 rfl ?_
      refine st_lesS (lv' := [some (.ref l0), none, some (.int l2), none, some (.int l4), none, some (.ref l6), some (.int (v2 * (8 : Int32)))]) ⟨Or.inr rfl, Or.inl rfl, Or.inr rfl, Or.inl rfl, Or.inr rfl, Or.inl rfl, Or.inr rfl, Or.inr rfl, trivial⟩ ?_
      exact T_X1_addLook_79 hd hq
    ·
      refine st_iconst (pc := 74) (v := (1 : Int32)) dX1_addLook_74 rfl ?_
      refine st_goto (pc := 75) (tgt := 79) dX1_addLook_75 (by decide) ?_
      refine st_lesS (lv' := [some (.ref l0), none, some (.int l2), none, some (.int l4), none, some (.ref l6), some (.int (v2 * (8 : Int32)))]) ⟨Or.inr rfl, Or.inl rfl, Or.inr rfl, Or.inl rfl, Or.inr rfl, Or.inl rfl, Or.inr rfl, Or.inr rfl, trivial⟩ ?_
      exact T_X1_addLook_79 hd hq
  ·
    exact bd_vret (pc := 9) hq dX1_addLook_9 rfl
-- HoleWater.lookSees(IIII)Z
theorem dX11_lookSees_32 : decode cX11_lookSees 32 = .ok (.istore 5, 2) := by decide +kernel
theorem dX11_lookSees_34 : decode cX11_lookSees 34 = .ok (.aload_n 0, 1) := by decide +kernel
theorem dX11_lookSees_35 : decode cX11_lookSees 35 = .ok (.getfield 12, 3) := by decide +kernel
theorem dX11_lookSees_38 : decode cX11_lookSees 38 = .ok (.getfield 196, 3) := by decide +kernel
theorem dX11_lookSees_41 : decode cX11_lookSees 41 = .ok (.iload_n 1, 1) := by decide +kernel
theorem dX11_lookSees_42 : decode cX11_lookSees 42 = .ok (.iload_n 2, 1) := by decide +kernel
theorem dX11_lookSees_43 : decode cX11_lookSees 43 = .ok (.iload_n 3, 1) := by decide +kernel
theorem dX11_lookSees_44 : decode cX11_lookSees 44 = .ok (.iload 4, 2) := by decide +kernel
theorem dX11_lookSees_46 : decode cX11_lookSees 46 = .ok (.iload 5, 2) := by decide +kernel
theorem dX11_lookSees_48 : decode cX11_lookSees 48 = .ok (.aload_n 0, 1) := by decide +kernel
theorem dX11_lookSees_49 : decode cX11_lookSees 49 = .ok (.getfield 12, 3) := by decide +kernel
theorem dX11_lookSees_52 : decode cX11_lookSees 52 = .ok (.getfield 90, 3) := by decide +kernel
theorem dX11_lookSees_55 : decode cX11_lookSees 55 = .ok (.invokevirtual 398, 3) := by decide +kernel
theorem dX11_lookSees_58 : decode cX11_lookSees 58 = .ok (.iload 5, 2) := by decide +kernel
theorem dX11_lookSees_60 : decode cX11_lookSees 60 = .ok (.ireturn, 1) := by decide +kernel
theorem dX11_lookSees_17 : decode cX11_lookSees 17 = .ok (.aload_n 0, 1) := by decide +kernel
theorem dX11_lookSees_18 : decode cX11_lookSees 18 = .ok (.getfield 29, 3) := by decide +kernel
theorem dX11_lookSees_21 : decode cX11_lookSees 21 = .ok (.invokevirtual 264, 3) := by decide +kernel
theorem dX11_lookSees_24 : decode cX11_lookSees 24 = .ok (.if_icmp .lt 7, 3) := by decide +kernel
theorem dX11_lookSees_31 : decode cX11_lookSees 31 = .ok (.iconst 0, 1) := by decide +kernel
theorem dX11_lookSees_27 : decode cX11_lookSees 27 = .ok (.iconst 1, 1) := by decide +kernel
theorem dX11_lookSees_28 : decode cX11_lookSees 28 = .ok (.goto 4, 3) := by decide +kernel
theorem dX11_lookSees_0 : decode cX11_lookSees 0 = .ok (.iload 4, 2) := by decide +kernel
theorem dX11_lookSees_2 : decode cX11_lookSees 2 = .ok (.aload_n 0, 1) := by decide +kernel
theorem dX11_lookSees_3 : decode cX11_lookSees 3 = .ok (.getfield 12, 3) := by decide +kernel
theorem dX11_lookSees_6 : decode cX11_lookSees 6 = .ok (.iload_n 1, 1) := by decide +kernel
theorem dX11_lookSees_7 : decode cX11_lookSees 7 = .ok (.iload_n 2, 1) := by decide +kernel
theorem dX11_lookSees_8 : decode cX11_lookSees 8 = .ok (.iload_n 3, 1) := by decide +kernel
theorem dX11_lookSees_9 : decode cX11_lookSees 9 = .ok (.ifCond .ne 7, 3) := by decide +kernel
theorem dX11_lookSees_12 : decode cX11_lookSees 12 = .ok (.iconst 0, 1) := by decide +kernel
theorem dX11_lookSees_13 : decode cX11_lookSees 13 = .ok (.goto 4, 3) := by decide +kernel
theorem dX11_lookSees_16 : decode cX11_lookSees 16 = .ok (.iconst 1, 1) := by decide +kernel
def D_X11_lookSees_32 (N : Nat) (h : mh_H) (l0 : Nat) (l1 : Int32) (l2 : Int32) (l3 : Int32) (l4 : Int32) (s0 : Int32) : Option (Int32 × mh_H) :=
  (gR h 11 l0 0).bind fun v1 =>
  (gR h 10 v1 8).bind fun v2 =>
  (gR h 11 l0 0).bind fun v3 =>
  (gR h 10 v3 7).bind fun v4 =>
  kO h 1 v2 <|
  (D_X1_addLook N h v2 l1 l2 l3 l4 s0 v4).bind fun q5 =>
  zB s0 q5
set_option maxHeartbeats 4000000 in
set_option maxRecDepth 100000 in
theorem T_X11_lookSees_32 {P : mh_E → Prop} {N d : Nat} (hd : 5 ≤ d) {z : (Int32 × mh_H)} {h : mh_H} {l0 : Nat} {l1 : Int32} {l2 : Int32} {l3 : Int32} {l4 : Int32} {s0 : Int32} (hq : D_X11_lookSees_32 N h l0 l1 l2 l3 l4 s0 = some z) : mh_go P d mX11_lookSees 32 [some (.ref l0), some (.int l1), some (.int l2), some (.int l3), some (.int l4), none] [.int s0] h (some (.int z.1)) z.2 := by
  unfold D_X11_lookSees_32 at hq
  refine st_istore (pc := 32) (lv' := [some (.ref l0), some (.int l1), some (.int l2), some (.int l3), some (.int l4), some (.int s0)]) dX11_lookSees_32 rfl (by decide) rfl ?_
  refine st_aload_n (pc := 34) dX11_lookSees_34 rfl ?_
  refine bd_getr (pc := 35) hq dX11_lookSees_35 fl_11_12_11 rfl (fun v1 hq => ?_)
  refine bd_getr (pc := 38) hq dX11_lookSees_38 fl_11_196_10 rfl (fun v2 hq => ?_)
  refine st_iload_n (pc := 41) dX11_lookSees_41 rfl ?_
  refine st_iload_n (pc := 42) dX11_lookSees_42 rfl ?_
  refine st_iload_n (pc := 43) dX11_lookSees_43 rfl ?_
  refine st_iload (pc := 44) dX11_lookSees_44 rfl ?_
  refine st_iload (pc := 46) dX11_lookSees_46 rfl ?_
  refine st_aload_n (pc := 48) dX11_lookSees_48 rfl ?_
  refine bd_getr (pc := 49) hq dX11_lookSees_49 fl_11_12_11 rfl (fun v3 hq => ?_)
  refine bd_getr (pc := 52) hq dX11_lookSees_52 fl_11_90_10 rfl (fun v4 hq => ?_)
  obtain ⟨⟨hbq5, hkq5⟩, hq⟩ := mh_oi hq
  obtain ⟨q5, e5, hq⟩ := mh_ob hq
  refine st_invV (pc := 55) (ci := 1) (vs := [.int l1, .int l2, .int l3, .int l4, .int s0, .ref v4]) (rest := []) (st2 := []) dX11_lookSees_55 okX1_addLook (by decide) hkq5 hbq5 wd_851 wd_852 wd_853 pdX1_addLook rfl rfl rfl rfl (Nat.le_trans (by decide) hd) (Nat.le_of_ble_eq_true rfl) (T_X1_addLook (Nat.le_refl _) e5) rfl ?_
  refine st_iload (pc := 58) dX11_lookSees_58 rfl ?_
  exact bd_zret (pc := 60) hq dX11_lookSees_60 rfl
def D_X11_lookSees_17 (N : Nat) (h : mh_H) (l0 : Nat) (l1 : Int32) (l2 : Int32) (l3 : Int32) (l4 : Int32) (s0 : Int32) (s1 : Nat) (s2 : Int32) (s3 : Int32) (s4 : Int32) : Option (Int32 × mh_H) :=
  (gR h 11 l0 3).bind fun v1 =>
  kO h 10 s1 <|
  (D_X10_seenAt N h s1 s2 s3 s4 v1).bind fun q2 =>
  if s0 < q2.1 then (D_X11_lookSees_32 N q2.2 l0 l1 l2 l3 l4 (0 : Int32))
  else (D_X11_lookSees_32 N q2.2 l0 l1 l2 l3 l4 (1 : Int32))
set_option maxHeartbeats 4000000 in
set_option maxRecDepth 100000 in
theorem T_X11_lookSees_17 {P : mh_E → Prop} {N d : Nat} (hd : 5 ≤ d) {z : (Int32 × mh_H)} {h : mh_H} {l0 : Nat} {l1 : Int32} {l2 : Int32} {l3 : Int32} {l4 : Int32} {s0 : Int32} {s1 : Nat} {s2 : Int32} {s3 : Int32} {s4 : Int32} (hq : D_X11_lookSees_17 N h l0 l1 l2 l3 l4 s0 s1 s2 s3 s4 = some z) : mh_go P d mX11_lookSees 17 [some (.ref l0), some (.int l1), some (.int l2), some (.int l3), some (.int l4), none] [.int s4, .int s3, .int s2, .ref s1, .int s0] h (some (.int z.1)) z.2 := by
  unfold D_X11_lookSees_17 at hq
  refine st_aload_n (pc := 17) dX11_lookSees_17 rfl ?_
  refine bd_getr (pc := 18) hq dX11_lookSees_18 fl_11_29_11 rfl (fun v1 hq => ?_)
  obtain ⟨⟨hbq2, hkq2⟩, hq⟩ := mh_oi hq
  obtain ⟨q2, e2, hq⟩ := mh_ob hq
  refine st_invV (pc := 21) (ci := 10) (vs := [.int s2, .int s3, .int s4, .ref v1]) (rest := [.int s0]) (st2 := [.int q2.1, .int s0]) dX11_lookSees_21 okX10_seenAt (by decide) hkq2 hbq2 wd_835 wd_836 wd_837 pdX10_seenAt rfl rfl rfl rfl (Nat.le_trans (by decide) hd) (Nat.le_of_ble_eq_true rfl) (T_X10_seenAt (Nat.le_refl _) e2) rfl ?_
  refine bd_icmp_lt (pc := 24) (tgt := 31) hq dX11_lookSees_24 (by decide) (fun _ hq => ?_) (fun _ hq => ?_)
  ·
    refine st_iconst (pc := 31) (v := (0 : Int32)) dX11_lookSees_31 rfl ?_
    exact T_X11_lookSees_32 hd hq
  ·
    refine st_iconst (pc := 27) (v := (1 : Int32)) dX11_lookSees_27 rfl ?_
    refine st_goto (pc := 28) (tgt := 32) dX11_lookSees_28 (by decide) ?_
    exact T_X11_lookSees_32 hd hq
def D_X11_lookSees (N : Nat) (h : mh_H) (l0 : Nat) (l1 : Int32) (l2 : Int32) (l3 : Int32) (l4 : Int32) : Option (Int32 × mh_H) :=
  (gR h 11 l0 0).bind fun v1 =>
  if l3 = 0 then (D_X11_lookSees_17 N h l0 l1 l2 l3 l4 l4 v1 l1 l2 (0 : Int32))
  else (D_X11_lookSees_17 N h l0 l1 l2 l3 l4 l4 v1 l1 l2 (1 : Int32))
set_option maxHeartbeats 4000000 in
set_option maxRecDepth 100000 in
theorem T_X11_lookSees {P : mh_E → Prop} {N d : Nat} (hd : 5 ≤ d) {z : (Int32 × mh_H)} {h : mh_H} {l0 : Nat} {l1 : Int32} {l2 : Int32} {l3 : Int32} {l4 : Int32} (hq : D_X11_lookSees N h l0 l1 l2 l3 l4 = some z) : mh_go P d mX11_lookSees 0 [some (.ref l0), some (.int l1), some (.int l2), some (.int l3), some (.int l4), none] [] h (some (.int z.1)) z.2 := by
  unfold D_X11_lookSees at hq
  refine st_iload (pc := 0) dX11_lookSees_0 rfl ?_
  refine st_aload_n (pc := 2) dX11_lookSees_2 rfl ?_
  refine bd_getr (pc := 3) hq dX11_lookSees_3 fl_11_12_11 rfl (fun v1 hq => ?_)
  refine st_iload_n (pc := 6) dX11_lookSees_6 rfl ?_
  refine st_iload_n (pc := 7) dX11_lookSees_7 rfl ?_
  refine st_iload_n (pc := 8) dX11_lookSees_8 rfl ?_
  refine bd_if_ne (pc := 9) (tgt := 16) hq dX11_lookSees_9 (by decide) (fun _ hq => ?_) (fun _ hq => ?_)
  ·
    refine st_iconst (pc := 12) (v := (0 : Int32)) dX11_lookSees_12 rfl ?_
    refine st_goto (pc := 13) (tgt := 17) dX11_lookSees_13 (by decide) ?_
    exact T_X11_lookSees_17 hd hq
  ·
    refine st_iconst (pc := 16) (v := (1 : Int32)) dX11_lookSees_16 rfl ?_
    exact T_X11_lookSees_17 hd hq
-- HoleWater.bottle(II)I
theorem dX11_bottle_0 : decode cX11_bottle 0 = .ok (.aload_n 0, 1) := by decide +kernel
theorem dX11_bottle_1 : decode cX11_bottle 1 = .ok (.iload_n 1, 1) := by decide +kernel
theorem dX11_bottle_2 : decode cX11_bottle 2 = .ok (.iload_n 2, 1) := by decide +kernel
theorem dX11_bottle_3 : decode cX11_bottle 3 = .ok (.invokevirtual 268, 3) := by decide +kernel
theorem dX11_bottle_6 : decode cX11_bottle 6 = .ok (.istore_n 3, 1) := by decide +kernel
theorem dX11_bottle_7 : decode cX11_bottle 7 = .ok (.iload_n 3, 1) := by decide +kernel
theorem dX11_bottle_8 : decode cX11_bottle 8 = .ok (.ifCond .eq 9, 3) := by decide +kernel
theorem dX11_bottle_17 : decode cX11_bottle 17 = .ok (.aload_n 0, 1) := by decide +kernel
theorem dX11_bottle_18 : decode cX11_bottle 18 = .ok (.getfield 12, 3) := by decide +kernel
theorem dX11_bottle_21 : decode cX11_bottle 21 = .ok (.getfield 90, 3) := by decide +kernel
theorem dX11_bottle_24 : decode cX11_bottle 24 = .ok (.iload_n 1, 1) := by decide +kernel
theorem dX11_bottle_25 : decode cX11_bottle 25 = .ok (.iload_n 2, 1) := by decide +kernel
theorem dX11_bottle_26 : decode cX11_bottle 26 = .ok (.iconst 1, 1) := by decide +kernel
theorem dX11_bottle_27 : decode cX11_bottle 27 = .ok (.invokevirtual 220, 3) := by decide +kernel
theorem dX11_bottle_30 : decode cX11_bottle 30 = .ok (.istore 4, 2) := by decide +kernel
theorem dX11_bottle_32 : decode cX11_bottle 32 = .ok (.aload_n 0, 1) := by decide +kernel
theorem dX11_bottle_33 : decode cX11_bottle 33 = .ok (.iload_n 1, 1) := by decide +kernel
theorem dX11_bottle_34 : decode cX11_bottle 34 = .ok (.iload_n 2, 1) := by decide +kernel
theorem dX11_bottle_35 : decode cX11_bottle 35 = .ok (.iconst 0, 1) := by decide +kernel
theorem dX11_bottle_36 : decode cX11_bottle 36 = .ok (.iload 4, 2) := by decide +kernel
theorem dX11_bottle_38 : decode cX11_bottle 38 = .ok (.invokevirtual 271, 3) := by decide +kernel
theorem dX11_bottle_41 : decode cX11_bottle 41 = .ok (.ifCond .eq 8, 3) := by decide +kernel
theorem dX11_bottle_49 : decode cX11_bottle 49 = .ok (.iconst 0, 1) := by decide +kernel
theorem dX11_bottle_50 : decode cX11_bottle 50 = .ok (.ireturn, 1) := by decide +kernel
theorem dX11_bottle_44 : decode cX11_bottle 44 = .ok (.iload 4, 2) := by decide +kernel
theorem dX11_bottle_46 : decode cX11_bottle 46 = .ok (.goto 4, 3) := by decide +kernel
theorem dX11_bottle_11 : decode cX11_bottle 11 = .ok (.aload_n 0, 1) := by decide +kernel
theorem dX11_bottle_12 : decode cX11_bottle 12 = .ok (.iload_n 3, 1) := by decide +kernel
theorem dX11_bottle_13 : decode cX11_bottle 13 = .ok (.invokevirtual 66, 3) := by decide +kernel
theorem dX11_bottle_16 : decode cX11_bottle 16 = .ok (.ireturn, 1) := by decide +kernel
def D_X11_bottle (N : Nat) (h : mh_H) (l0 : Nat) (l1 : Int32) (l2 : Int32) : Option (Int32 × mh_H) :=
  kO h 11 l0 <|
  (D_X11_lookError N h l0 l1 l2).bind fun q1 =>
  if q1.1 = 0 then ((gR q1.2 11 l0 0).bind fun v2 =>
  (gR q1.2 10 v2 7).bind fun v3 =>
  kO q1.2 8 v3 <|
  (D_X8_cameOut N q1.2 v3 l1 l2 (1 : Int32)).bind fun q4 =>
  kO q4.2 11 l0 <|
  (D_X11_lookSees N q4.2 l0 l1 l2 (0 : Int32) q4.1).bind fun q5 =>
  if q5.1 = 0 then (some ((0 : Int32), q5.2))
  else (some (q4.1, q5.2)))
  else (kO q1.2 11 l0 <|
  (D_X11_error N q1.2 l0 q1.1).bind fun q2 =>
  some (q2.1, q2.2))
set_option maxHeartbeats 4000000 in
set_option maxRecDepth 100000 in
theorem T_X11_bottle {P : mh_E → Prop} {N d : Nat} (hd : 6 ≤ d) {z : (Int32 × mh_H)} {h : mh_H} {l0 : Nat} {l1 : Int32} {l2 : Int32} (hq : D_X11_bottle N h l0 l1 l2 = some z) : mh_go P d mX11_bottle 0 [some (.ref l0), some (.int l1), some (.int l2), none, none] [] h (some (.int z.1)) z.2 := by
  unfold D_X11_bottle at hq
  refine st_aload_n (pc := 0) dX11_bottle_0 rfl ?_
  refine st_iload_n (pc := 1) dX11_bottle_1 rfl ?_
  refine st_iload_n (pc := 2) dX11_bottle_2 rfl ?_
  obtain ⟨⟨hbq1, hkq1⟩, hq⟩ := mh_oi hq
  obtain ⟨q1, e1, hq⟩ := mh_ob hq
  refine st_invV (pc := 3) (ci := 11) (vs := [.int l1, .int l2]) (rest := []) (st2 := [.int q1.1]) dX11_bottle_3 okX11_lookError (by decide) hkq1 hbq1 wd_843 wd_845 wp_22 pdX11_lookError rfl rfl rfl rfl (Nat.le_trans (by decide) hd) (Nat.le_of_ble_eq_true rfl) (T_X11_lookError (Nat.le_refl _) e1) rfl ?_
  refine st_istore_n (pc := 6) (lv' := [some (.ref l0), some (.int l1), some (.int l2), some (.int q1.1), none]) dX11_bottle_6 rfl (by decide) rfl ?_
  refine st_iload_n (pc := 7) dX11_bottle_7 rfl ?_
  refine bd_if_eq (pc := 8) (tgt := 17) hq dX11_bottle_8 (by decide) (fun _ hq => ?_) (fun _ hq => ?_)
  ·
    refine st_aload_n (pc := 17) dX11_bottle_17 rfl ?_
    refine bd_getr (pc := 18) hq dX11_bottle_18 fl_11_12_11 rfl (fun v2 hq => ?_)
    refine bd_getr (pc := 21) hq dX11_bottle_21 fl_11_90_10 rfl (fun v3 hq => ?_)
    refine st_iload_n (pc := 24) dX11_bottle_24 rfl ?_
    refine st_iload_n (pc := 25) dX11_bottle_25 rfl ?_
    refine st_iconst (pc := 26) (v := (1 : Int32)) dX11_bottle_26 rfl ?_
    obtain ⟨⟨hbq4, hkq4⟩, hq⟩ := mh_oi hq
    obtain ⟨q4, e4, hq⟩ := mh_ob hq
    refine st_invV (pc := 27) (ci := 8) (vs := [.int l1, .int l2, .int (1 : Int32)]) (rest := []) (st2 := [.int q4.1]) dX11_bottle_27 okX8_cameOut (by decide) hkq4 hbq4 wd_656 wd_657 wd_658 pdX8_cameOut rfl rfl rfl rfl (Nat.le_trans (by decide) hd) (Nat.le_of_ble_eq_true rfl) (T_X8_cameOut (Nat.le_refl _) e4) rfl ?_
    refine st_istore (pc := 30) (lv' := [some (.ref l0), some (.int l1), some (.int l2), some (.int q1.1), some (.int q4.1)]) dX11_bottle_30 rfl (by decide) rfl ?_
    refine st_aload_n (pc := 32) dX11_bottle_32 rfl ?_
    refine st_iload_n (pc := 33) dX11_bottle_33 rfl ?_
    refine st_iload_n (pc := 34) dX11_bottle_34 rfl ?_
    refine st_iconst (pc := 35) (v := (0 : Int32)) dX11_bottle_35 rfl ?_
    refine st_iload (pc := 36) dX11_bottle_36 rfl ?_
    obtain ⟨⟨hbq5, hkq5⟩, hq⟩ := mh_oi hq
    obtain ⟨q5, e5, hq⟩ := mh_ob hq
    refine st_invV (pc := 38) (ci := 11) (vs := [.int l1, .int l2, .int (0 : Int32), .int q4.1]) (rest := []) (st2 := [.int q5.1]) dX11_bottle_38 okX11_lookSees (by decide) hkq5 hbq5 wd_847 wd_849 wp_23 pdX11_lookSees rfl rfl rfl rfl (Nat.le_trans (by decide) hd) (Nat.le_of_ble_eq_true rfl) (T_X11_lookSees (Nat.le_refl _) e5) rfl ?_
    refine bd_if_eq (pc := 41) (tgt := 49) hq dX11_bottle_41 (by decide) (fun _ hq => ?_) (fun _ hq => ?_)
    ·
      refine st_iconst (pc := 49) (v := (0 : Int32)) dX11_bottle_49 rfl ?_
      exact bd_iret (pc := 50) hq dX11_bottle_50 rfl
    ·
      refine st_iload (pc := 44) dX11_bottle_44 rfl ?_
      refine st_goto (pc := 46) (tgt := 50) dX11_bottle_46 (by decide) ?_
      exact bd_iret (pc := 50) hq dX11_bottle_50 rfl
  ·
    refine st_aload_n (pc := 11) dX11_bottle_11 rfl ?_
    refine st_iload_n (pc := 12) dX11_bottle_12 rfl ?_
    obtain ⟨⟨hbq2, hkq2⟩, hq⟩ := mh_oi hq
    obtain ⟨q2, e2, hq⟩ := mh_ob hq
    refine st_invV (pc := 13) (ci := 11) (vs := [.int q1.1]) (rest := []) (st2 := [.int q2.1]) dX11_bottle_13 okX11_error (by decide) hkq2 hbq2 wd_326 wd_328 wp_0 pdX11_error rfl rfl rfl rfl (Nat.le_trans (by decide) hd) (Nat.le_of_ble_eq_true rfl) (T_X11_error (Nat.le_refl _) e2) rfl ?_
    exact bd_iret (pc := 16) hq dX11_bottle_16 rfl
-- HoleWater.bag(III)I
theorem dX11_bag_24 : decode cX11_bag 24 = .ok (.aload_n 0, 1) := by decide +kernel
theorem dX11_bag_25 : decode cX11_bag 25 = .ok (.iconst 1, 1) := by decide +kernel
theorem dX11_bag_26 : decode cX11_bag 26 = .ok (.invokevirtual 66, 3) := by decide +kernel
theorem dX11_bag_29 : decode cX11_bag 29 = .ok (.ireturn, 1) := by decide +kernel
theorem dX11_bag_48 : decode cX11_bag 48 = .ok (.iload 6, 2) := by decide +kernel
theorem dX11_bag_50 : decode cX11_bag 50 = .ok (.iload_n 3, 1) := by decide +kernel
theorem dX11_bag_51 : decode cX11_bag 51 = .ok (.if_icmp .gt 28, 3) := by decide +kernel
theorem dX11_bag_79 : decode cX11_bag 79 = .ok (.aload_n 0, 1) := by decide +kernel
theorem dX11_bag_80 : decode cX11_bag 80 = .ok (.iload_n 1, 1) := by decide +kernel
theorem dX11_bag_81 : decode cX11_bag 81 = .ok (.iload_n 2, 1) := by decide +kernel
theorem dX11_bag_82 : decode cX11_bag 82 = .ok (.iload_n 3, 1) := by decide +kernel
theorem dX11_bag_83 : decode cX11_bag 83 = .ok (.iload 5, 2) := by decide +kernel
theorem dX11_bag_85 : decode cX11_bag 85 = .ok (.invokevirtual 271, 3) := by decide +kernel
theorem dX11_bag_88 : decode cX11_bag 88 = .ok (.ifCond .eq 7, 3) := by decide +kernel
theorem dX11_bag_95 : decode cX11_bag 95 = .ok (.iconst 0, 1) := by decide +kernel
theorem dX11_bag_96 : decode cX11_bag 96 = .ok (.ireturn, 1) := by decide +kernel
theorem dX11_bag_91 : decode cX11_bag 91 = .ok (.iconst 1, 1) := by decide +kernel
theorem dX11_bag_92 : decode cX11_bag 92 = .ok (.goto 4, 3) := by decide +kernel
theorem dX11_bag_54 : decode cX11_bag 54 = .ok (.iload 5, 2) := by decide +kernel
theorem dX11_bag_56 : decode cX11_bag 56 = .ok (.aload_n 0, 1) := by decide +kernel
theorem dX11_bag_57 : decode cX11_bag 57 = .ok (.getfield 12, 3) := by decide +kernel
theorem dX11_bag_60 : decode cX11_bag 60 = .ok (.getfield 90, 3) := by decide +kernel
theorem dX11_bag_63 : decode cX11_bag 63 = .ok (.iload_n 1, 1) := by decide +kernel
theorem dX11_bag_64 : decode cX11_bag 64 = .ok (.iload_n 2, 1) := by decide +kernel
theorem dX11_bag_65 : decode cX11_bag 65 = .ok (.iload 6, 2) := by decide +kernel
theorem dX11_bag_67 : decode cX11_bag 67 = .ok (.invokevirtual 220, 3) := by decide +kernel
theorem dX11_bag_70 : decode cX11_bag 70 = .ok (.iadd, 1) := by decide +kernel
theorem dX11_bag_71 : decode cX11_bag 71 = .ok (.istore 5, 2) := by decide +kernel
theorem dX11_bag_73 : decode cX11_bag 73 = .ok (.iinc 6 1, 3) := by decide +kernel
theorem dX11_bag_76 : decode cX11_bag 76 = .ok (.goto (-28), 3) := by decide +kernel
theorem dX11_bag_0 : decode cX11_bag 0 = .ok (.aload_n 0, 1) := by decide +kernel
theorem dX11_bag_1 : decode cX11_bag 1 = .ok (.iload_n 1, 1) := by decide +kernel
theorem dX11_bag_2 : decode cX11_bag 2 = .ok (.iload_n 2, 1) := by decide +kernel
theorem dX11_bag_3 : decode cX11_bag 3 = .ok (.invokevirtual 268, 3) := by decide +kernel
theorem dX11_bag_6 : decode cX11_bag 6 = .ok (.istore 4, 2) := by decide +kernel
theorem dX11_bag_8 : decode cX11_bag 8 = .ok (.iload 4, 2) := by decide +kernel
theorem dX11_bag_10 : decode cX11_bag 10 = .ok (.iconst 1, 1) := by decide +kernel
theorem dX11_bag_11 : decode cX11_bag 11 = .ok (.if_icmp .eq 13, 3) := by decide +kernel
theorem dX11_bag_14 : decode cX11_bag 14 = .ok (.iload_n 3, 1) := by decide +kernel
theorem dX11_bag_15 : decode cX11_bag 15 = .ok (.iconst 1, 1) := by decide +kernel
theorem dX11_bag_16 : decode cX11_bag 16 = .ok (.bipush 24, 2) := by decide +kernel
theorem dX11_bag_18 : decode cX11_bag 18 = .ok (.invokestatic 62, 3) := by decide +kernel
theorem dX11_bag_21 : decode cX11_bag 21 = .ok (.ifCond .ne 9, 3) := by decide +kernel
theorem dX11_bag_30 : decode cX11_bag 30 = .ok (.iload 4, 2) := by decide +kernel
theorem dX11_bag_32 : decode cX11_bag 32 = .ok (.ifCond .eq 10, 3) := by decide +kernel
theorem dX11_bag_42 : decode cX11_bag 42 = .ok (.iconst 0, 1) := by decide +kernel
theorem dX11_bag_43 : decode cX11_bag 43 = .ok (.istore 5, 2) := by decide +kernel
theorem dX11_bag_45 : decode cX11_bag 45 = .ok (.iconst 1, 1) := by decide +kernel
theorem dX11_bag_46 : decode cX11_bag 46 = .ok (.istore 6, 2) := by decide +kernel
theorem dX11_bag_35 : decode cX11_bag 35 = .ok (.aload_n 0, 1) := by decide +kernel
theorem dX11_bag_36 : decode cX11_bag 36 = .ok (.iload 4, 2) := by decide +kernel
theorem dX11_bag_38 : decode cX11_bag 38 = .ok (.invokevirtual 66, 3) := by decide +kernel
theorem dX11_bag_41 : decode cX11_bag 41 = .ok (.ireturn, 1) := by decide +kernel
def D_X11_bag_24 (N : Nat) (h : mh_H) (l0 : Nat) : Option (Int32 × mh_H) :=
  kO h 11 l0 <|
  (D_X11_error N h l0 (1 : Int32)).bind fun q1 =>
  some (q1.1, q1.2)
set_option maxHeartbeats 4000000 in
set_option maxRecDepth 100000 in
theorem T_X11_bag_24 {P : mh_E → Prop} {N d : Nat} (hd : 6 ≤ d) {z : (Int32 × mh_H)} {h : mh_H} {l0 : Nat} (hq : D_X11_bag_24 N h l0 = some z) : mh_go P d mX11_bag 24 [some (.ref l0), none, none, none, none, none, none] [] h (some (.int z.1)) z.2 := by
  unfold D_X11_bag_24 at hq
  refine st_aload_n (pc := 24) dX11_bag_24 rfl ?_
  refine st_iconst (pc := 25) (v := (1 : Int32)) dX11_bag_25 rfl ?_
  obtain ⟨⟨hbq1, hkq1⟩, hq⟩ := mh_oi hq
  obtain ⟨q1, e1, hq⟩ := mh_ob hq
  refine st_invV (pc := 26) (ci := 11) (vs := [.int (1 : Int32)]) (rest := []) (st2 := [.int q1.1]) dX11_bag_26 okX11_error (by decide) hkq1 hbq1 wd_326 wd_328 wp_0 pdX11_error rfl rfl rfl rfl (Nat.le_trans (by decide) hd) (Nat.le_of_ble_eq_true rfl) (T_X11_error (Nat.le_refl _) e1) rfl ?_
  exact bd_iret (pc := 29) hq dX11_bag_29 rfl
def D_X11_bag_48 (N : Nat) : Nat → mh_H → Nat → Int32 → Int32 → Int32 → Int32 → Int32 → Option (Int32 × mh_H)
  | 0, _, _, _, _, _, _, _ => none
  | F + 1, h, l0, l1, l2, l3, l5, l6 =>
    if l3 < l6 then (kO h 11 l0 <|
    (D_X11_lookSees N h l0 l1 l2 l3 l5).bind fun q1 =>
    if q1.1 = 0 then (some ((0 : Int32), q1.2))
    else (some ((1 : Int32), q1.2)))
    else ((gR h 11 l0 0).bind fun v1 =>
    (gR h 10 v1 7).bind fun v2 =>
    kO h 8 v2 <|
    (D_X8_cameOut N h v2 l1 l2 l6).bind fun q3 =>
    (D_X11_bag_48 N F) q3.2 l0 l1 l2 l3 (l5 + q3.1) (l6 + Int32.ofInt (1)))
set_option maxHeartbeats 4000000 in
set_option maxRecDepth 100000 in
theorem T_X11_bag_48 {P : mh_E → Prop} {N d : Nat} (hd : 6 ≤ d) {z : (Int32 × mh_H)} : ∀ (F : Nat) (h : mh_H) (l0 : Nat) (l1 : Int32) (l2 : Int32) (l3 : Int32) (l5 : Int32) (l6 : Int32), D_X11_bag_48 N F h l0 l1 l2 l3 l5 l6 = some z → mh_go P d mX11_bag 48 [some (.ref l0), some (.int l1), some (.int l2), some (.int l3), none, some (.int l5), some (.int l6)] [] h (some (.int z.1)) z.2 := by
  intro F
  induction F with
  | zero => intro h l0 l1 l2 l3 l5 l6 hq; rw [D_X11_bag_48] at hq; cases hq
  | succ F ih =>
    intro h l0 l1 l2 l3 l5 l6 hq
    rw [D_X11_bag_48] at hq
    refine st_iload (pc := 48) dX11_bag_48 rfl ?_
    refine st_iload_n (pc := 50) dX11_bag_50 rfl ?_
    refine bd_icmp_gt (pc := 51) (tgt := 79) hq dX11_bag_51 (by decide) (fun _ hq => ?_) (fun _ hq => ?_)
    ·
      refine st_aload_n (pc := 79) dX11_bag_79 rfl ?_
      refine st_iload_n (pc := 80) dX11_bag_80 rfl ?_
      refine st_iload_n (pc := 81) dX11_bag_81 rfl ?_
      refine st_iload_n (pc := 82) dX11_bag_82 rfl ?_
      refine st_iload (pc := 83) dX11_bag_83 rfl ?_
      obtain ⟨⟨hbq1, hkq1⟩, hq⟩ := mh_oi hq
      obtain ⟨q1, e1, hq⟩ := mh_ob hq
      refine st_invV (pc := 85) (ci := 11) (vs := [.int l1, .int l2, .int l3, .int l5]) (rest := []) (st2 := [.int q1.1]) dX11_bag_85 okX11_lookSees (by decide) hkq1 hbq1 wd_847 wd_849 wp_23 pdX11_lookSees rfl rfl rfl rfl (Nat.le_trans (by decide) hd) (Nat.le_of_ble_eq_true rfl) (T_X11_lookSees (Nat.le_refl _) e1) rfl ?_
      refine bd_if_eq (pc := 88) (tgt := 95) hq dX11_bag_88 (by decide) (fun _ hq => ?_) (fun _ hq => ?_)
      ·
        refine st_iconst (pc := 95) (v := (0 : Int32)) dX11_bag_95 rfl ?_
        exact bd_iret (pc := 96) hq dX11_bag_96 rfl
      ·
        refine st_iconst (pc := 91) (v := (1 : Int32)) dX11_bag_91 rfl ?_
        refine st_goto (pc := 92) (tgt := 96) dX11_bag_92 (by decide) ?_
        exact bd_iret (pc := 96) hq dX11_bag_96 rfl
    ·
      refine st_iload (pc := 54) dX11_bag_54 rfl ?_
      refine st_aload_n (pc := 56) dX11_bag_56 rfl ?_
      refine bd_getr (pc := 57) hq dX11_bag_57 fl_11_12_11 rfl (fun v1 hq => ?_)
      refine bd_getr (pc := 60) hq dX11_bag_60 fl_11_90_10 rfl (fun v2 hq => ?_)
      refine st_iload_n (pc := 63) dX11_bag_63 rfl ?_
      refine st_iload_n (pc := 64) dX11_bag_64 rfl ?_
      refine st_iload (pc := 65) dX11_bag_65 rfl ?_
      obtain ⟨⟨hbq3, hkq3⟩, hq⟩ := mh_oi hq
      obtain ⟨q3, e3, hq⟩ := mh_ob hq
      refine st_invV (pc := 67) (ci := 8) (vs := [.int l1, .int l2, .int l6]) (rest := [.int l5]) (st2 := [.int q3.1, .int l5]) dX11_bag_67 okX8_cameOut (by decide) hkq3 hbq3 wd_656 wd_657 wd_658 pdX8_cameOut rfl rfl rfl rfl (Nat.le_trans (by decide) hd) (Nat.le_of_ble_eq_true rfl) (T_X8_cameOut (Nat.le_refl _) e3) rfl ?_
      refine st_iadd (pc := 70) dX11_bag_70 ?_
      refine st_istore (pc := 71) (lv' := [some (.ref l0), some (.int l1), some (.int l2), some (.int l3), none, some (.int (l5 + q3.1)), some (.int l6)]) dX11_bag_71 rfl (by decide) rfl ?_
      refine st_iinc (pc := 73) (lv' := [some (.ref l0), some (.int l1), some (.int l2), some (.int l3), none, some (.int (l5 + q3.1)), some (.int (l6 + Int32.ofInt (1)))]) dX11_bag_73 rfl rfl (by decide) rfl ?_
      refine st_goto (pc := 76) (tgt := 48) dX11_bag_76 (by decide) ?_
      exact ih _ _ _ _ _ _ _ hq
def D_X11_bag (N : Nat) (h : mh_H) (l0 : Nat) (l1 : Int32) (l2 : Int32) (l3 : Int32) : Option (Int32 × mh_H) :=
  kO h 11 l0 <|
  (D_X11_lookError N h l0 l1 l2).bind fun q1 =>
  if q1.1 = (1 : Int32) then (D_X11_bag_24 N q1.2 l0)
  else ((D_X11_within N q1.2 l3 (1 : Int32) (24 : Int32)).bind fun q2 =>
  if q2.1 = 0 then (D_X11_bag_24 N q2.2 l0)
  else (if q1.1 = 0 then (D_X11_bag_48 N N q2.2 l0 l1 l2 l3 (0 : Int32) (1 : Int32))
  else (kO q2.2 11 l0 <|
  (D_X11_error N q2.2 l0 q1.1).bind fun q3 =>
  some (q3.1, q3.2))))
set_option maxHeartbeats 4000000 in
set_option maxRecDepth 100000 in
theorem T_X11_bag {P : mh_E → Prop} {N d : Nat} (hd : 6 ≤ d) {z : (Int32 × mh_H)} {h : mh_H} {l0 : Nat} {l1 : Int32} {l2 : Int32} {l3 : Int32} (hq : D_X11_bag N h l0 l1 l2 l3 = some z) : mh_go P d mX11_bag 0 [some (.ref l0), some (.int l1), some (.int l2), some (.int l3), none, none, none] [] h (some (.int z.1)) z.2 := by
  unfold D_X11_bag at hq
  refine st_aload_n (pc := 0) dX11_bag_0 rfl ?_
  refine st_iload_n (pc := 1) dX11_bag_1 rfl ?_
  refine st_iload_n (pc := 2) dX11_bag_2 rfl ?_
  obtain ⟨⟨hbq1, hkq1⟩, hq⟩ := mh_oi hq
  obtain ⟨q1, e1, hq⟩ := mh_ob hq
  refine st_invV (pc := 3) (ci := 11) (vs := [.int l1, .int l2]) (rest := []) (st2 := [.int q1.1]) dX11_bag_3 okX11_lookError (by decide) hkq1 hbq1 wd_843 wd_845 wp_22 pdX11_lookError rfl rfl rfl rfl (Nat.le_trans (by decide) hd) (Nat.le_of_ble_eq_true rfl) (T_X11_lookError (Nat.le_refl _) e1) rfl ?_
  refine st_istore (pc := 6) (lv' := [some (.ref l0), some (.int l1), some (.int l2), some (.int l3), some (.int q1.1), none, none]) dX11_bag_6 rfl (by decide) rfl ?_
  refine st_iload (pc := 8) dX11_bag_8 rfl ?_
  refine st_iconst (pc := 10) (v := (1 : Int32)) dX11_bag_10 rfl ?_
  refine bd_icmp_eq (pc := 11) (tgt := 24) hq dX11_bag_11 (by decide) (fun _ hq => ?_) (fun _ hq => ?_)
  ·
    refine st_lesS (lv' := [some (.ref l0), none, none, none, none, none, none]) ⟨Or.inr rfl, Or.inl rfl, Or.inl rfl, Or.inl rfl, Or.inl rfl, Or.inr rfl, Or.inr rfl, trivial⟩ ?_
    exact T_X11_bag_24 hd hq
  ·
    refine st_iload_n (pc := 14) dX11_bag_14 rfl ?_
    refine st_iconst (pc := 15) (v := (1 : Int32)) dX11_bag_15 rfl ?_
    refine st_bipush (pc := 16) (v := (24 : Int32)) dX11_bag_16 (by decide) ?_
    obtain ⟨q2, e2, hq⟩ := mh_ob hq
    refine st_invS (pc := 18) (Y := mX11_within) (vs := [.int l3, .int (1 : Int32), .int (24 : Int32)]) (rest := []) (st2 := [.int q2.1]) dX11_bag_18 okX11_within wd_323 wd_324 pdX11_within rfl rfl rfl rfl (Nat.le_trans (by decide) hd) (Nat.le_of_ble_eq_true rfl) (T_X11_within (Nat.le_refl _) e2) rfl ?_
    refine bd_if_ne (pc := 21) (tgt := 30) hq dX11_bag_21 (by decide) (fun _ hq => ?_) (fun _ hq => ?_)
    ·
      refine st_lesS (lv' := [some (.ref l0), none, none, none, none, none, none]) ⟨Or.inr rfl, Or.inl rfl, Or.inl rfl, Or.inl rfl, Or.inl rfl, Or.inr rfl, Or.inr rfl, trivial⟩ ?_
      exact T_X11_bag_24 hd hq
    ·
      refine st_iload (pc := 30) dX11_bag_30 rfl ?_
      refine bd_if_eq (pc := 32) (tgt := 42) hq dX11_bag_32 (by decide) (fun _ hq => ?_) (fun _ hq => ?_)
      ·
        refine st_iconst (pc := 42) (v := (0 : Int32)) dX11_bag_42 rfl ?_
        refine st_istore (pc := 43) (lv' := [some (.ref l0), some (.int l1), some (.int l2), some (.int l3), some (.int q1.1), some (.int (0 : Int32)), none]) dX11_bag_43 rfl (by decide) rfl ?_
        refine st_iconst (pc := 45) (v := (1 : Int32)) dX11_bag_45 rfl ?_
        refine st_istore (pc := 46) (lv' := [some (.ref l0), some (.int l1), some (.int l2), some (.int l3), some (.int q1.1), some (.int (0 : Int32)), some (.int (1 : Int32))]) dX11_bag_46 rfl (by decide) rfl ?_
        refine st_lesS (lv' := [some (.ref l0), some (.int l1), some (.int l2), some (.int l3), none, some (.int (0 : Int32)), some (.int (1 : Int32))]) ⟨Or.inr rfl, Or.inr rfl, Or.inr rfl, Or.inr rfl, Or.inl rfl, Or.inr rfl, Or.inr rfl, trivial⟩ ?_
        exact T_X11_bag_48 hd N _ _ _ _ _ _ _ hq
      ·
        refine st_aload_n (pc := 35) dX11_bag_35 rfl ?_
        refine st_iload (pc := 36) dX11_bag_36 rfl ?_
        obtain ⟨⟨hbq3, hkq3⟩, hq⟩ := mh_oi hq
        obtain ⟨q3, e3, hq⟩ := mh_ob hq
        refine st_invV (pc := 38) (ci := 11) (vs := [.int q1.1]) (rest := []) (st2 := [.int q3.1]) dX11_bag_38 okX11_error (by decide) hkq3 hbq3 wd_326 wd_328 wp_0 pdX11_error rfl rfl rfl rfl (Nat.le_trans (by decide) hd) (Nat.le_of_ble_eq_true rfl) (T_X11_error (Nat.le_refl _) e3) rfl ?_
        exact bd_iret (pc := 41) hq dX11_bag_41 rfl
-- HoleWater.lookIs(II)I
theorem dX11_lookIs_27 : decode cX11_lookIs 27 = .ok (.aload_n 0, 1) := by decide +kernel
theorem dX11_lookIs_28 : decode cX11_lookIs 28 = .ok (.iconst 1, 1) := by decide +kernel
theorem dX11_lookIs_29 : decode cX11_lookIs 29 = .ok (.invokevirtual 66, 3) := by decide +kernel
theorem dX11_lookIs_32 : decode cX11_lookIs 32 = .ok (.ireturn, 1) := by decide +kernel
theorem dX11_lookIs_0 : decode cX11_lookIs 0 = .ok (.iload_n 1, 1) := by decide +kernel
theorem dX11_lookIs_1 : decode cX11_lookIs 1 = .ok (.ifCond .lt 26, 3) := by decide +kernel
theorem dX11_lookIs_4 : decode cX11_lookIs 4 = .ok (.iload_n 1, 1) := by decide +kernel
theorem dX11_lookIs_5 : decode cX11_lookIs 5 = .ok (.aload_n 0, 1) := by decide +kernel
theorem dX11_lookIs_6 : decode cX11_lookIs 6 = .ok (.getfield 12, 3) := by decide +kernel
theorem dX11_lookIs_9 : decode cX11_lookIs 9 = .ok (.getfield 196, 3) := by decide +kernel
theorem dX11_lookIs_12 : decode cX11_lookIs 12 = .ok (.getfield 275, 3) := by decide +kernel
theorem dX11_lookIs_15 : decode cX11_lookIs 15 = .ok (.if_icmp .ge 12, 3) := by decide +kernel
theorem dX11_lookIs_18 : decode cX11_lookIs 18 = .ok (.iload_n 2, 1) := by decide +kernel
theorem dX11_lookIs_19 : decode cX11_lookIs 19 = .ok (.iconst 0, 1) := by decide +kernel
theorem dX11_lookIs_20 : decode cX11_lookIs 20 = .ok (.iconst 5, 1) := by decide +kernel
theorem dX11_lookIs_21 : decode cX11_lookIs 21 = .ok (.invokestatic 62, 3) := by decide +kernel
theorem dX11_lookIs_24 : decode cX11_lookIs 24 = .ok (.ifCond .ne 9, 3) := by decide +kernel
theorem dX11_lookIs_33 : decode cX11_lookIs 33 = .ok (.aload_n 0, 1) := by decide +kernel
theorem dX11_lookIs_34 : decode cX11_lookIs 34 = .ok (.getfield 12, 3) := by decide +kernel
theorem dX11_lookIs_37 : decode cX11_lookIs 37 = .ok (.getfield 196, 3) := by decide +kernel
theorem dX11_lookIs_40 : decode cX11_lookIs 40 = .ok (.getfield 278, 3) := by decide +kernel
theorem dX11_lookIs_43 : decode cX11_lookIs 43 = .ok (.iload_n 1, 1) := by decide +kernel
theorem dX11_lookIs_44 : decode cX11_lookIs 44 = .ok (.bipush 8, 2) := by decide +kernel
theorem dX11_lookIs_46 : decode cX11_lookIs 46 = .ok (.imul, 1) := by decide +kernel
theorem dX11_lookIs_47 : decode cX11_lookIs 47 = .ok (.iload_n 2, 1) := by decide +kernel
theorem dX11_lookIs_48 : decode cX11_lookIs 48 = .ok (.iadd, 1) := by decide +kernel
theorem dX11_lookIs_49 : decode cX11_lookIs 49 = .ok (.iaload, 1) := by decide +kernel
theorem dX11_lookIs_50 : decode cX11_lookIs 50 = .ok (.ireturn, 1) := by decide +kernel
def D_X11_lookIs_27 (N : Nat) (h : mh_H) (l0 : Nat) : Option (Int32 × mh_H) :=
  kO h 11 l0 <|
  (D_X11_error N h l0 (1 : Int32)).bind fun q1 =>
  some (q1.1, q1.2)
set_option maxHeartbeats 4000000 in
set_option maxRecDepth 100000 in
theorem T_X11_lookIs_27 {P : mh_E → Prop} {N d : Nat} (hd : 3 ≤ d) {z : (Int32 × mh_H)} {h : mh_H} {l0 : Nat} (hq : D_X11_lookIs_27 N h l0 = some z) : mh_go P d mX11_lookIs 27 [some (.ref l0), none, none] [] h (some (.int z.1)) z.2 := by
  unfold D_X11_lookIs_27 at hq
  refine st_aload_n (pc := 27) dX11_lookIs_27 rfl ?_
  refine st_iconst (pc := 28) (v := (1 : Int32)) dX11_lookIs_28 rfl ?_
  obtain ⟨⟨hbq1, hkq1⟩, hq⟩ := mh_oi hq
  obtain ⟨q1, e1, hq⟩ := mh_ob hq
  refine st_invV (pc := 29) (ci := 11) (vs := [.int (1 : Int32)]) (rest := []) (st2 := [.int q1.1]) dX11_lookIs_29 okX11_error (by decide) hkq1 hbq1 wd_326 wd_328 wp_0 pdX11_error rfl rfl rfl rfl (Nat.le_trans (by decide) hd) (Nat.le_of_ble_eq_true rfl) (T_X11_error (Nat.le_refl _) e1) rfl ?_
  exact bd_iret (pc := 32) hq dX11_lookIs_32 rfl
def D_X11_lookIs (N : Nat) (h : mh_H) (l0 : Nat) (l1 : Int32) (l2 : Int32) : Option (Int32 × mh_H) :=
  if l1 < 0 then (D_X11_lookIs_27 N h l0)
  else ((gR h 11 l0 0).bind fun v1 =>
  (gR h 10 v1 8).bind fun v2 =>
  (gI h 1 v2 1).bind fun v3 =>
  if v3 ≤ l1 then (D_X11_lookIs_27 N h l0)
  else ((D_X11_within N h l2 (0 : Int32) (5 : Int32)).bind fun q4 =>
  if q4.1 = 0 then (D_X11_lookIs_27 N q4.2 l0)
  else ((gR q4.2 11 l0 0).bind fun v5 =>
  (gR q4.2 10 v5 8).bind fun v6 =>
  (gR q4.2 1 v6 3).bind fun v7 =>
  (aI q4.2 v7 ((l1 * (8 : Int32)) + l2)).bind fun v8 =>
  some (v8, q4.2))))
set_option maxHeartbeats 4000000 in
set_option maxRecDepth 100000 in
theorem T_X11_lookIs {P : mh_E → Prop} {N d : Nat} (hd : 3 ≤ d) {z : (Int32 × mh_H)} {h : mh_H} {l0 : Nat} {l1 : Int32} {l2 : Int32} (hq : D_X11_lookIs N h l0 l1 l2 = some z) : mh_go P d mX11_lookIs 0 [some (.ref l0), some (.int l1), some (.int l2)] [] h (some (.int z.1)) z.2 := by
  unfold D_X11_lookIs at hq
  refine st_iload_n (pc := 0) dX11_lookIs_0 rfl ?_
  refine bd_if_lt (pc := 1) (tgt := 27) hq dX11_lookIs_1 (by decide) (fun _ hq => ?_) (fun _ hq => ?_)
  ·
    refine st_lesS (lv' := [some (.ref l0), none, none]) ⟨Or.inr rfl, Or.inl rfl, Or.inl rfl, trivial⟩ ?_
    exact T_X11_lookIs_27 hd hq
  ·
    refine st_iload_n (pc := 4) dX11_lookIs_4 rfl ?_
    refine st_aload_n (pc := 5) dX11_lookIs_5 rfl ?_
    refine bd_getr (pc := 6) hq dX11_lookIs_6 fl_11_12_11 rfl (fun v1 hq => ?_)
    refine bd_getr (pc := 9) hq dX11_lookIs_9 fl_11_196_10 rfl (fun v2 hq => ?_)
    refine bd_geti (pc := 12) hq dX11_lookIs_12 fl_11_275_1 rfl (fun v3 hq => ?_)
    refine bd_icmp_ge (pc := 15) (tgt := 27) hq dX11_lookIs_15 (by decide) (fun _ hq => ?_) (fun _ hq => ?_)
    ·
      refine st_lesS (lv' := [some (.ref l0), none, none]) ⟨Or.inr rfl, Or.inl rfl, Or.inl rfl, trivial⟩ ?_
      exact T_X11_lookIs_27 hd hq
    ·
      refine st_iload_n (pc := 18) dX11_lookIs_18 rfl ?_
      refine st_iconst (pc := 19) (v := (0 : Int32)) dX11_lookIs_19 rfl ?_
      refine st_iconst (pc := 20) (v := (5 : Int32)) dX11_lookIs_20 rfl ?_
      obtain ⟨q4, e4, hq⟩ := mh_ob hq
      refine st_invS (pc := 21) (Y := mX11_within) (vs := [.int l2, .int (0 : Int32), .int (5 : Int32)]) (rest := []) (st2 := [.int q4.1]) dX11_lookIs_21 okX11_within wd_323 wd_324 pdX11_within rfl rfl rfl rfl (Nat.le_trans (by decide) hd) (Nat.le_of_ble_eq_true rfl) (T_X11_within (Nat.le_refl _) e4) rfl ?_
      refine bd_if_ne (pc := 24) (tgt := 33) hq dX11_lookIs_24 (by decide) (fun _ hq => ?_) (fun _ hq => ?_)
      ·
        refine st_lesS (lv' := [some (.ref l0), none, none]) ⟨Or.inr rfl, Or.inl rfl, Or.inl rfl, trivial⟩ ?_
        exact T_X11_lookIs_27 hd hq
      ·
        refine st_aload_n (pc := 33) dX11_lookIs_33 rfl ?_
        refine bd_getr (pc := 34) hq dX11_lookIs_34 fl_11_12_11 rfl (fun v5 hq => ?_)
        refine bd_getr (pc := 37) hq dX11_lookIs_37 fl_11_196_10 rfl (fun v6 hq => ?_)
        refine bd_getr (pc := 40) hq dX11_lookIs_40 fl_11_278_1 rfl (fun v7 hq => ?_)
        refine st_iload_n (pc := 43) dX11_lookIs_43 rfl ?_
        refine st_bipush (pc := 44) (v := (8 : Int32)) dX11_lookIs_44 (by decide) ?_
        refine st_imul (pc := 46) dX11_lookIs_46 ?_
        refine st_iload_n (pc := 47) dX11_lookIs_47 rfl ?_
        refine st_iadd (pc := 48) dX11_lookIs_48 ?_
        refine bd_iald (pc := 49) hq dX11_lookIs_49 (fun v8 hq => ?_)
        exact bd_iret (pc := 50) hq dX11_lookIs_50 rfl
-- HoleWater.pairError(II)I
theorem dX11_pairError_0 : decode cX11_pairError 0 = .ok (.aload_n 0, 1) := by decide +kernel
theorem dX11_pairError_1 : decode cX11_pairError 1 = .ok (.getfield 12, 3) := by decide +kernel
theorem dX11_pairError_4 : decode cX11_pairError 4 = .ok (.iload_n 1, 1) := by decide +kernel
theorem dX11_pairError_5 : decode cX11_pairError 5 = .ok (.invokevirtual 77, 3) := by decide +kernel
theorem dX11_pairError_8 : decode cX11_pairError 8 = .ok (.ifCond .eq 14, 3) := by decide +kernel
theorem dX11_pairError_22 : decode cX11_pairError 22 = .ok (.iconst 1, 1) := by decide +kernel
theorem dX11_pairError_23 : decode cX11_pairError 23 = .ok (.ireturn, 1) := by decide +kernel
theorem dX11_pairError_11 : decode cX11_pairError 11 = .ok (.aload_n 0, 1) := by decide +kernel
theorem dX11_pairError_12 : decode cX11_pairError 12 = .ok (.getfield 12, 3) := by decide +kernel
theorem dX11_pairError_15 : decode cX11_pairError 15 = .ok (.iload_n 2, 1) := by decide +kernel
theorem dX11_pairError_16 : decode cX11_pairError 16 = .ok (.invokevirtual 77, 3) := by decide +kernel
theorem dX11_pairError_19 : decode cX11_pairError 19 = .ok (.ifCond .ne 5, 3) := by decide +kernel
theorem dX11_pairError_24 : decode cX11_pairError 24 = .ok (.aload_n 0, 1) := by decide +kernel
theorem dX11_pairError_25 : decode cX11_pairError 25 = .ok (.getfield 12, 3) := by decide +kernel
theorem dX11_pairError_28 : decode cX11_pairError 28 = .ok (.iload_n 1, 1) := by decide +kernel
theorem dX11_pairError_29 : decode cX11_pairError 29 = .ok (.iconst 0, 1) := by decide +kernel
theorem dX11_pairError_30 : decode cX11_pairError 30 = .ok (.invokevirtual 112, 3) := by decide +kernel
theorem dX11_pairError_33 : decode cX11_pairError 33 = .ok (.ifCond .eq 19, 3) := by decide +kernel
theorem dX11_pairError_52 : decode cX11_pairError 52 = .ok (.iconst 5, 1) := by decide +kernel
theorem dX11_pairError_53 : decode cX11_pairError 53 = .ok (.ireturn, 1) := by decide +kernel
theorem dX11_pairError_36 : decode cX11_pairError 36 = .ok (.aload_n 0, 1) := by decide +kernel
theorem dX11_pairError_37 : decode cX11_pairError 37 = .ok (.getfield 12, 3) := by decide +kernel
theorem dX11_pairError_40 : decode cX11_pairError 40 = .ok (.iload_n 2, 1) := by decide +kernel
theorem dX11_pairError_41 : decode cX11_pairError 41 = .ok (.iconst 2, 1) := by decide +kernel
theorem dX11_pairError_42 : decode cX11_pairError 42 = .ok (.invokevirtual 112, 3) := by decide +kernel
theorem dX11_pairError_45 : decode cX11_pairError 45 = .ok (.ifCond .eq 7, 3) := by decide +kernel
theorem dX11_pairError_48 : decode cX11_pairError 48 = .ok (.iconst 0, 1) := by decide +kernel
theorem dX11_pairError_49 : decode cX11_pairError 49 = .ok (.goto 4, 3) := by decide +kernel
def D_X11_pairError (N : Nat) (h : mh_H) (l0 : Nat) (l1 : Int32) (l2 : Int32) : Option (Int32 × mh_H) :=
  (gR h 11 l0 0).bind fun v1 =>
  kO h 10 v1 <|
  (D_X10_isJoint N h v1 l1).bind fun q2 =>
  if q2.1 = 0 then (some ((1 : Int32), q2.2))
  else ((gR q2.2 11 l0 0).bind fun v3 =>
  kO q2.2 10 v3 <|
  (D_X10_isJoint N q2.2 v3 l2).bind fun q4 =>
  if q4.1 = 0 then (some ((1 : Int32), q4.2))
  else ((gR q4.2 11 l0 0).bind fun v5 =>
  kO q4.2 10 v5 <|
  (D_X10_isOf N q4.2 v5 l1 (0 : Int32)).bind fun q6 =>
  if q6.1 = 0 then (some ((5 : Int32), q6.2))
  else ((gR q6.2 11 l0 0).bind fun v7 =>
  kO q6.2 10 v7 <|
  (D_X10_isOf N q6.2 v7 l2 (2 : Int32)).bind fun q8 =>
  if q8.1 = 0 then (some ((5 : Int32), q8.2))
  else (some ((0 : Int32), q8.2)))))
set_option maxHeartbeats 4000000 in
set_option maxRecDepth 100000 in
theorem T_X11_pairError {P : mh_E → Prop} {N d : Nat} (hd : 3 ≤ d) {z : (Int32 × mh_H)} {h : mh_H} {l0 : Nat} {l1 : Int32} {l2 : Int32} (hq : D_X11_pairError N h l0 l1 l2 = some z) : mh_go P d mX11_pairError 0 [some (.ref l0), some (.int l1), some (.int l2)] [] h (some (.int z.1)) z.2 := by
  unfold D_X11_pairError at hq
  refine st_aload_n (pc := 0) dX11_pairError_0 rfl ?_
  refine bd_getr (pc := 1) hq dX11_pairError_1 fl_11_12_11 rfl (fun v1 hq => ?_)
  refine st_iload_n (pc := 4) dX11_pairError_4 rfl ?_
  obtain ⟨⟨hbq2, hkq2⟩, hq⟩ := mh_oi hq
  obtain ⟨q2, e2, hq⟩ := mh_ob hq
  refine st_invV (pc := 5) (ci := 10) (vs := [.int l1]) (rest := []) (st2 := [.int q2.1]) dX11_pairError_5 okX10_isJoint (by decide) hkq2 hbq2 wd_339 wd_340 wd_341 pdX10_isJoint rfl rfl rfl rfl (Nat.le_trans (by decide) hd) (Nat.le_of_ble_eq_true rfl) (T_X10_isJoint (Nat.le_refl _) e2) rfl ?_
  refine bd_if_eq (pc := 8) (tgt := 22) hq dX11_pairError_8 (by decide) (fun _ hq => ?_) (fun _ hq => ?_)
  ·
    refine st_iconst (pc := 22) (v := (1 : Int32)) dX11_pairError_22 rfl ?_
    exact bd_iret (pc := 23) hq dX11_pairError_23 rfl
  ·
    refine st_aload_n (pc := 11) dX11_pairError_11 rfl ?_
    refine bd_getr (pc := 12) hq dX11_pairError_12 fl_11_12_11 rfl (fun v3 hq => ?_)
    refine st_iload_n (pc := 15) dX11_pairError_15 rfl ?_
    obtain ⟨⟨hbq4, hkq4⟩, hq⟩ := mh_oi hq
    obtain ⟨q4, e4, hq⟩ := mh_ob hq
    refine st_invV (pc := 16) (ci := 10) (vs := [.int l2]) (rest := []) (st2 := [.int q4.1]) dX11_pairError_16 okX10_isJoint (by decide) hkq4 hbq4 wd_339 wd_340 wd_341 pdX10_isJoint rfl rfl rfl rfl (Nat.le_trans (by decide) hd) (Nat.le_of_ble_eq_true rfl) (T_X10_isJoint (Nat.le_refl _) e4) rfl ?_
    refine bd_if_ne (pc := 19) (tgt := 24) hq dX11_pairError_19 (by decide) (fun _ hq => ?_) (fun _ hq => ?_)
    ·
      refine st_iconst (pc := 22) (v := (1 : Int32)) dX11_pairError_22 rfl ?_
      exact bd_iret (pc := 23) hq dX11_pairError_23 rfl
    ·
      refine st_aload_n (pc := 24) dX11_pairError_24 rfl ?_
      refine bd_getr (pc := 25) hq dX11_pairError_25 fl_11_12_11 rfl (fun v5 hq => ?_)
      refine st_iload_n (pc := 28) dX11_pairError_28 rfl ?_
      refine st_iconst (pc := 29) (v := (0 : Int32)) dX11_pairError_29 rfl ?_
      obtain ⟨⟨hbq6, hkq6⟩, hq⟩ := mh_oi hq
      obtain ⟨q6, e6, hq⟩ := mh_ob hq
      refine st_invV (pc := 30) (ci := 10) (vs := [.int l1, .int (0 : Int32)]) (rest := []) (st2 := [.int q6.1]) dX11_pairError_30 okX10_isOf (by decide) hkq6 hbq6 wd_359 wd_355 wd_356 pdX10_isOf rfl rfl rfl rfl (Nat.le_trans (by decide) hd) (Nat.le_of_ble_eq_true rfl) (T_X10_isOf (Nat.le_refl _) e6) rfl ?_
      refine bd_if_eq (pc := 33) (tgt := 52) hq dX11_pairError_33 (by decide) (fun _ hq => ?_) (fun _ hq => ?_)
      ·
        refine st_iconst (pc := 52) (v := (5 : Int32)) dX11_pairError_52 rfl ?_
        exact bd_iret (pc := 53) hq dX11_pairError_53 rfl
      ·
        refine st_aload_n (pc := 36) dX11_pairError_36 rfl ?_
        refine bd_getr (pc := 37) hq dX11_pairError_37 fl_11_12_11 rfl (fun v7 hq => ?_)
        refine st_iload_n (pc := 40) dX11_pairError_40 rfl ?_
        refine st_iconst (pc := 41) (v := (2 : Int32)) dX11_pairError_41 rfl ?_
        obtain ⟨⟨hbq8, hkq8⟩, hq⟩ := mh_oi hq
        obtain ⟨q8, e8, hq⟩ := mh_ob hq
        refine st_invV (pc := 42) (ci := 10) (vs := [.int l2, .int (2 : Int32)]) (rest := []) (st2 := [.int q8.1]) dX11_pairError_42 okX10_isOf (by decide) hkq8 hbq8 wd_359 wd_355 wd_356 pdX10_isOf rfl rfl rfl rfl (Nat.le_trans (by decide) hd) (Nat.le_of_ble_eq_true rfl) (T_X10_isOf (Nat.le_refl _) e8) rfl ?_
        refine bd_if_eq (pc := 45) (tgt := 52) hq dX11_pairError_45 (by decide) (fun _ hq => ?_) (fun _ hq => ?_)
        ·
          refine st_iconst (pc := 52) (v := (5 : Int32)) dX11_pairError_52 rfl ?_
          exact bd_iret (pc := 53) hq dX11_pairError_53 rfl
        ·
          refine st_iconst (pc := 48) (v := (0 : Int32)) dX11_pairError_48 rfl ?_
          refine st_goto (pc := 49) (tgt := 53) dX11_pairError_49 (by decide) ?_
          exact bd_iret (pc := 53) hq dX11_pairError_53 rfl
-- HoleWater$Looks.lookPart(II)I
theorem dX1_lookPart_0 : decode cX1_lookPart 0 = .ok (.aload_n 0, 1) := by decide +kernel
theorem dX1_lookPart_1 : decode cX1_lookPart 1 = .ok (.getfield 22, 3) := by decide +kernel
theorem dX1_lookPart_4 : decode cX1_lookPart 4 = .ok (.iload_n 1, 1) := by decide +kernel
theorem dX1_lookPart_5 : decode cX1_lookPart 5 = .ok (.bipush 8, 2) := by decide +kernel
theorem dX1_lookPart_7 : decode cX1_lookPart 7 = .ok (.imul, 1) := by decide +kernel
theorem dX1_lookPart_8 : decode cX1_lookPart 8 = .ok (.iload_n 2, 1) := by decide +kernel
theorem dX1_lookPart_9 : decode cX1_lookPart 9 = .ok (.iadd, 1) := by decide +kernel
theorem dX1_lookPart_10 : decode cX1_lookPart 10 = .ok (.iaload, 1) := by decide +kernel
theorem dX1_lookPart_11 : decode cX1_lookPart 11 = .ok (.ireturn, 1) := by decide +kernel
def D_X1_lookPart (N : Nat) (h : mh_H) (l0 : Nat) (l1 : Int32) (l2 : Int32) : Option (Int32 × mh_H) :=
  (gR h 1 l0 3).bind fun v1 =>
  (aI h v1 ((l1 * (8 : Int32)) + l2)).bind fun v2 =>
  some (v2, h)
set_option maxHeartbeats 4000000 in
set_option maxRecDepth 100000 in
theorem T_X1_lookPart {P : mh_E → Prop} {N d : Nat} (hd : 1 ≤ d) {z : (Int32 × mh_H)} {h : mh_H} {l0 : Nat} {l1 : Int32} {l2 : Int32} (hq : D_X1_lookPart N h l0 l1 l2 = some z) : mh_go P d mX1_lookPart 0 [some (.ref l0), some (.int l1), some (.int l2)] [] h (some (.int z.1)) z.2 := by
  unfold D_X1_lookPart at hq
  refine st_aload_n (pc := 0) dX1_lookPart_0 rfl ?_
  refine bd_getr (pc := 1) hq dX1_lookPart_1 fl_1_22_1 rfl (fun v1 hq => ?_)
  refine st_iload_n (pc := 4) dX1_lookPart_4 rfl ?_
  refine st_bipush (pc := 5) (v := (8 : Int32)) dX1_lookPart_5 (by decide) ?_
  refine st_imul (pc := 7) dX1_lookPart_7 ?_
  refine st_iload_n (pc := 8) dX1_lookPart_8 rfl ?_
  refine st_iadd (pc := 9) dX1_lookPart_9 ?_
  refine bd_iald (pc := 10) hq dX1_lookPart_10 (fun v2 hq => ?_)
  exact bd_iret (pc := 11) hq dX1_lookPart_11 rfl
-- HoleWater$Looks.isAbout(III)Z
theorem dX1_isAbout_0 : decode cX1_isAbout 0 = .ok (.aload_n 0, 1) := by decide +kernel
theorem dX1_isAbout_1 : decode cX1_isAbout 1 = .ok (.iload_n 1, 1) := by decide +kernel
theorem dX1_isAbout_2 : decode cX1_isAbout 2 = .ok (.iconst 0, 1) := by decide +kernel
theorem dX1_isAbout_3 : decode cX1_isAbout 3 = .ok (.invokevirtual 60, 3) := by decide +kernel
theorem dX1_isAbout_6 : decode cX1_isAbout 6 = .ok (.iload_n 3, 1) := by decide +kernel
theorem dX1_isAbout_7 : decode cX1_isAbout 7 = .ok (.if_icmp .ne 22, 3) := by decide +kernel
theorem dX1_isAbout_10 : decode cX1_isAbout 10 = .ok (.aload_n 0, 1) := by decide +kernel
theorem dX1_isAbout_11 : decode cX1_isAbout 11 = .ok (.iload_n 1, 1) := by decide +kernel
theorem dX1_isAbout_12 : decode cX1_isAbout 12 = .ok (.bipush 7, 2) := by decide +kernel
theorem dX1_isAbout_14 : decode cX1_isAbout 14 = .ok (.invokevirtual 60, 3) := by decide +kernel
theorem dX1_isAbout_17 : decode cX1_isAbout 17 = .ok (.iload_n 2, 1) := by decide +kernel
theorem dX1_isAbout_18 : decode cX1_isAbout 18 = .ok (.invokestatic 63, 3) := by decide +kernel
theorem dX1_isAbout_21 : decode cX1_isAbout 21 = .ok (.iconst 1, 1) := by decide +kernel
theorem dX1_isAbout_22 : decode cX1_isAbout 22 = .ok (.if_icmp .ne 7, 3) := by decide +kernel
theorem dX1_isAbout_25 : decode cX1_isAbout 25 = .ok (.iconst 1, 1) := by decide +kernel
theorem dX1_isAbout_26 : decode cX1_isAbout 26 = .ok (.goto 4, 3) := by decide +kernel
theorem dX1_isAbout_30 : decode cX1_isAbout 30 = .ok (.ireturn, 1) := by decide +kernel
theorem dX1_isAbout_29 : decode cX1_isAbout 29 = .ok (.iconst 0, 1) := by decide +kernel
def D_X1_isAbout (N : Nat) (h : mh_H) (l0 : Nat) (l1 : Int32) (l2 : Int32) (l3 : Int32) : Option (Int32 × mh_H) :=
  kO h 1 l0 <|
  (D_X1_lookPart N h l0 l1 (0 : Int32)).bind fun q1 =>
  if q1.1 = l3 then (kO q1.2 1 l0 <|
  (D_X1_lookPart N q1.2 l0 l1 (7 : Int32)).bind fun q2 =>
  (D_X11_bit N q2.2 q2.1 l2).bind fun q3 =>
  if q3.1 = (1 : Int32) then (zB (1 : Int32) q3.2)
  else (zB (0 : Int32) q3.2))
  else (zB (0 : Int32) q1.2)
set_option maxHeartbeats 4000000 in
set_option maxRecDepth 100000 in
theorem T_X1_isAbout {P : mh_E → Prop} {N d : Nat} (hd : 2 ≤ d) {z : (Int32 × mh_H)} {h : mh_H} {l0 : Nat} {l1 : Int32} {l2 : Int32} {l3 : Int32} (hq : D_X1_isAbout N h l0 l1 l2 l3 = some z) : mh_go P d mX1_isAbout 0 [some (.ref l0), some (.int l1), some (.int l2), some (.int l3)] [] h (some (.int z.1)) z.2 := by
  unfold D_X1_isAbout at hq
  refine st_aload_n (pc := 0) dX1_isAbout_0 rfl ?_
  refine st_iload_n (pc := 1) dX1_isAbout_1 rfl ?_
  refine st_iconst (pc := 2) (v := (0 : Int32)) dX1_isAbout_2 rfl ?_
  obtain ⟨⟨hbq1, hkq1⟩, hq⟩ := mh_oi hq
  obtain ⟨q1, e1, hq⟩ := mh_ob hq
  refine st_invV (pc := 3) (ci := 1) (vs := [.int l1, .int (0 : Int32)]) (rest := []) (st2 := [.int q1.1]) dX1_isAbout_3 okX1_lookPart (by decide) hkq1 hbq1 wd_883 wd_884 wd_885 pdX1_lookPart rfl rfl rfl rfl (Nat.le_trans (by decide) hd) (Nat.le_of_ble_eq_true rfl) (T_X1_lookPart (Nat.le_refl _) e1) rfl ?_
  refine st_iload_n (pc := 6) dX1_isAbout_6 rfl ?_
  refine bd_icmp_ne (pc := 7) (tgt := 29) hq dX1_isAbout_7 (by decide) (fun _ hq => ?_) (fun _ hq => ?_)
  ·
    refine st_aload_n (pc := 10) dX1_isAbout_10 rfl ?_
    refine st_iload_n (pc := 11) dX1_isAbout_11 rfl ?_
    refine st_bipush (pc := 12) (v := (7 : Int32)) dX1_isAbout_12 (by decide) ?_
    obtain ⟨⟨hbq2, hkq2⟩, hq⟩ := mh_oi hq
    obtain ⟨q2, e2, hq⟩ := mh_ob hq
    refine st_invV (pc := 14) (ci := 1) (vs := [.int l1, .int (7 : Int32)]) (rest := []) (st2 := [.int q2.1]) dX1_isAbout_14 okX1_lookPart (by decide) hkq2 hbq2 wd_883 wd_884 wd_885 pdX1_lookPart rfl rfl rfl rfl (Nat.le_trans (by decide) hd) (Nat.le_of_ble_eq_true rfl) (T_X1_lookPart (Nat.le_refl _) e2) rfl ?_
    refine st_iload_n (pc := 17) dX1_isAbout_17 rfl ?_
    obtain ⟨q3, e3, hq⟩ := mh_ob hq
    refine st_invSN (pc := 18) (Y := mX11_bit) (vs := [.int q2.1, .int l2]) (rest := []) (st2 := [.int q3.1]) dX1_isAbout_18 okX11_bit wn_891 wd_344 pdX11_bit rfl rfl rfl rfl (Nat.le_trans (by decide) hd) (Nat.le_of_ble_eq_true rfl) (T_X11_bit (Nat.le_refl _) e3) rfl ?_
    refine st_iconst (pc := 21) (v := (1 : Int32)) dX1_isAbout_21 rfl ?_
    refine bd_icmp_ne (pc := 22) (tgt := 29) hq dX1_isAbout_22 (by decide) (fun _ hq => ?_) (fun _ hq => ?_)
    ·
      refine st_iconst (pc := 25) (v := (1 : Int32)) dX1_isAbout_25 rfl ?_
      refine st_goto (pc := 26) (tgt := 30) dX1_isAbout_26 (by decide) ?_
      exact bd_zret (pc := 30) hq dX1_isAbout_30 rfl
    ·
      refine st_iconst (pc := 29) (v := (0 : Int32)) dX1_isAbout_29 rfl ?_
      exact bd_zret (pc := 30) hq dX1_isAbout_30 rfl
  ·
    refine st_iconst (pc := 29) (v := (0 : Int32)) dX1_isAbout_29 rfl ?_
    exact bd_zret (pc := 30) hq dX1_isAbout_30 rfl
-- HoleWater$Looks.saw(I)Z
theorem dX1_saw_0 : decode cX1_saw 0 = .ok (.aload_n 0, 1) := by decide +kernel
theorem dX1_saw_1 : decode cX1_saw 1 = .ok (.iload_n 1, 1) := by decide +kernel
theorem dX1_saw_2 : decode cX1_saw 2 = .ok (.iconst 4, 1) := by decide +kernel
theorem dX1_saw_3 : decode cX1_saw 3 = .ok (.invokevirtual 60, 3) := by decide +kernel
theorem dX1_saw_6 : decode cX1_saw 6 = .ok (.iconst 1, 1) := by decide +kernel
theorem dX1_saw_7 : decode cX1_saw 7 = .ok (.if_icmp .ne 7, 3) := by decide +kernel
theorem dX1_saw_10 : decode cX1_saw 10 = .ok (.iconst 1, 1) := by decide +kernel
theorem dX1_saw_11 : decode cX1_saw 11 = .ok (.goto 4, 3) := by decide +kernel
theorem dX1_saw_15 : decode cX1_saw 15 = .ok (.ireturn, 1) := by decide +kernel
theorem dX1_saw_14 : decode cX1_saw 14 = .ok (.iconst 0, 1) := by decide +kernel
def D_X1_saw (N : Nat) (h : mh_H) (l0 : Nat) (l1 : Int32) : Option (Int32 × mh_H) :=
  kO h 1 l0 <|
  (D_X1_lookPart N h l0 l1 (4 : Int32)).bind fun q1 =>
  if q1.1 = (1 : Int32) then (zB (1 : Int32) q1.2)
  else (zB (0 : Int32) q1.2)
set_option maxHeartbeats 4000000 in
set_option maxRecDepth 100000 in
theorem T_X1_saw {P : mh_E → Prop} {N d : Nat} (hd : 2 ≤ d) {z : (Int32 × mh_H)} {h : mh_H} {l0 : Nat} {l1 : Int32} (hq : D_X1_saw N h l0 l1 = some z) : mh_go P d mX1_saw 0 [some (.ref l0), some (.int l1)] [] h (some (.int z.1)) z.2 := by
  unfold D_X1_saw at hq
  refine st_aload_n (pc := 0) dX1_saw_0 rfl ?_
  refine st_iload_n (pc := 1) dX1_saw_1 rfl ?_
  refine st_iconst (pc := 2) (v := (4 : Int32)) dX1_saw_2 rfl ?_
  obtain ⟨⟨hbq1, hkq1⟩, hq⟩ := mh_oi hq
  obtain ⟨q1, e1, hq⟩ := mh_ob hq
  refine st_invV (pc := 3) (ci := 1) (vs := [.int l1, .int (4 : Int32)]) (rest := []) (st2 := [.int q1.1]) dX1_saw_3 okX1_lookPart (by decide) hkq1 hbq1 wd_883 wd_884 wd_885 pdX1_lookPart rfl rfl rfl rfl (Nat.le_trans (by decide) hd) (Nat.le_of_ble_eq_true rfl) (T_X1_lookPart (Nat.le_refl _) e1) rfl ?_
  refine st_iconst (pc := 6) (v := (1 : Int32)) dX1_saw_6 rfl ?_
  refine bd_icmp_ne (pc := 7) (tgt := 14) hq dX1_saw_7 (by decide) (fun _ hq => ?_) (fun _ hq => ?_)
  ·
    refine st_iconst (pc := 10) (v := (1 : Int32)) dX1_saw_10 rfl ?_
    refine st_goto (pc := 11) (tgt := 15) dX1_saw_11 (by decide) ?_
    exact bd_zret (pc := 15) hq dX1_saw_15 rfl
  ·
    refine st_iconst (pc := 14) (v := (0 : Int32)) dX1_saw_14 rfl ?_
    exact bd_zret (pc := 15) hq dX1_saw_15 rfl
-- HoleWater$Looks.said(III)I
theorem dX1_said_106 : decode cX1_said 106 = .ok (.iinc 5 1, 3) := by decide +kernel
theorem dX1_said_109 : decode cX1_said 109 = .ok (.goto (-103), 3) := by decide +kernel
theorem dX1_said_101 : decode cX1_said 101 = .ok (.invokestatic 74, 3) := by decide +kernel
theorem dX1_said_104 : decode cX1_said 104 = .ok (.istore 4, 2) := by decide +kernel
theorem dX1_said_74 : decode cX1_said 74 = .ok (.istore 7, 2) := by decide +kernel
theorem dX1_said_76 : decode cX1_said 76 = .ok (.iload 4, 2) := by decide +kernel
theorem dX1_said_78 : decode cX1_said 78 = .ok (.aload_n 0, 1) := by decide +kernel
theorem dX1_said_79 : decode cX1_said 79 = .ok (.iload 5, 2) := by decide +kernel
theorem dX1_said_81 : decode cX1_said 81 = .ok (.invokevirtual 70, 3) := by decide +kernel
theorem dX1_said_84 : decode cX1_said 84 = .ok (.ifCond .ne 7, 3) := by decide +kernel
theorem dX1_said_87 : decode cX1_said 87 = .ok (.iconst 1, 1) := by decide +kernel
theorem dX1_said_88 : decode cX1_said 88 = .ok (.goto 13, 3) := by decide +kernel
theorem dX1_said_91 : decode cX1_said 91 = .ok (.iload 7, 2) := by decide +kernel
theorem dX1_said_93 : decode cX1_said 93 = .ok (.ifCond .eq 7, 3) := by decide +kernel
theorem dX1_said_100 : decode cX1_said 100 = .ok (.iconst 2, 1) := by decide +kernel
theorem dX1_said_96 : decode cX1_said 96 = .ok (.iconst 3, 1) := by decide +kernel
theorem dX1_said_97 : decode cX1_said 97 = .ok (.goto 4, 3) := by decide +kernel
theorem dX1_said_37 : decode cX1_said 37 = .ok (.istore 6, 2) := by decide +kernel
theorem dX1_said_39 : decode cX1_said 39 = .ok (.iload 6, 2) := by decide +kernel
theorem dX1_said_41 : decode cX1_said 41 = .ok (.ifCond .eq 65, 3) := by decide +kernel
theorem dX1_said_44 : decode cX1_said 44 = .ok (.aload_n 0, 1) := by decide +kernel
theorem dX1_said_45 : decode cX1_said 45 = .ok (.iload 5, 2) := by decide +kernel
theorem dX1_said_47 : decode cX1_said 47 = .ok (.iload_n 1, 1) := by decide +kernel
theorem dX1_said_48 : decode cX1_said 48 = .ok (.iload_n 2, 1) := by decide +kernel
theorem dX1_said_49 : decode cX1_said 49 = .ok (.invokevirtual 66, 3) := by decide +kernel
theorem dX1_said_52 : decode cX1_said 52 = .ok (.ifCond .eq 54, 3) := by decide +kernel
theorem dX1_said_55 : decode cX1_said 55 = .ok (.aload_n 0, 1) := by decide +kernel
theorem dX1_said_56 : decode cX1_said 56 = .ok (.iload 5, 2) := by decide +kernel
theorem dX1_said_58 : decode cX1_said 58 = .ok (.bipush 7, 2) := by decide +kernel
theorem dX1_said_60 : decode cX1_said 60 = .ok (.invokevirtual 60, 3) := by decide +kernel
theorem dX1_said_63 : decode cX1_said 63 = .ok (.iconst 1, 1) := by decide +kernel
theorem dX1_said_64 : decode cX1_said 64 = .ok (.iload_n 1, 1) := by decide +kernel
theorem dX1_said_65 : decode cX1_said 65 = .ok (.ishl, 1) := by decide +kernel
theorem dX1_said_66 : decode cX1_said 66 = .ok (.if_icmp .ne 7, 3) := by decide +kernel
theorem dX1_said_69 : decode cX1_said 69 = .ok (.iconst 1, 1) := by decide +kernel
theorem dX1_said_70 : decode cX1_said 70 = .ok (.goto 4, 3) := by decide +kernel
theorem dX1_said_73 : decode cX1_said 73 = .ok (.iconst 0, 1) := by decide +kernel
theorem dX1_said_32 : decode cX1_said 32 = .ok (.iconst 1, 1) := by decide +kernel
theorem dX1_said_33 : decode cX1_said 33 = .ok (.goto 4, 3) := by decide +kernel
theorem dX1_said_6 : decode cX1_said 6 = .ok (.iload 5, 2) := by decide +kernel
theorem dX1_said_8 : decode cX1_said 8 = .ok (.aload_n 0, 1) := by decide +kernel
theorem dX1_said_9 : decode cX1_said 9 = .ok (.getfield 15, 3) := by decide +kernel
theorem dX1_said_12 : decode cX1_said 12 = .ok (.if_icmp .ge 100, 3) := by decide +kernel
theorem dX1_said_112 : decode cX1_said 112 = .ok (.iload 4, 2) := by decide +kernel
theorem dX1_said_114 : decode cX1_said 114 = .ok (.ireturn, 1) := by decide +kernel
theorem dX1_said_15 : decode cX1_said 15 = .ok (.iload_n 3, 1) := by decide +kernel
theorem dX1_said_16 : decode cX1_said 16 = .ok (.ifCond .eq 16, 3) := by decide +kernel
theorem dX1_said_19 : decode cX1_said 19 = .ok (.aload_n 0, 1) := by decide +kernel
theorem dX1_said_20 : decode cX1_said 20 = .ok (.iload 5, 2) := by decide +kernel
theorem dX1_said_22 : decode cX1_said 22 = .ok (.iconst 5, 1) := by decide +kernel
theorem dX1_said_23 : decode cX1_said 23 = .ok (.invokevirtual 60, 3) := by decide +kernel
theorem dX1_said_26 : decode cX1_said 26 = .ok (.iload_n 3, 1) := by decide +kernel
theorem dX1_said_27 : decode cX1_said 27 = .ok (.iconst 1, 1) := by decide +kernel
theorem dX1_said_28 : decode cX1_said 28 = .ok (.isub, 1) := by decide +kernel
theorem dX1_said_29 : decode cX1_said 29 = .ok (.if_icmp .ne 7, 3) := by decide +kernel
theorem dX1_said_36 : decode cX1_said 36 = .ok (.iconst 0, 1) := by decide +kernel
theorem dX1_said_0 : decode cX1_said 0 = .ok (.iconst 0, 1) := by decide +kernel
theorem dX1_said_1 : decode cX1_said 1 = .ok (.istore 4, 2) := by decide +kernel
theorem dX1_said_3 : decode cX1_said 3 = .ok (.iconst 0, 1) := by decide +kernel
theorem dX1_said_4 : decode cX1_said 4 = .ok (.istore 5, 2) := by decide +kernel
def D_X1_said_106 (N : Nat) (k6 : mh_H → Nat → Int32 → Int32 → Int32 → Int32 → Int32 → Option (Int32 × mh_H)) (h : mh_H) (l0 : Nat) (l1 : Int32) (l2 : Int32) (l3 : Int32) (l4 : Int32) (l5 : Int32) : Option (Int32 × mh_H) :=
  k6 h l0 l1 l2 l3 l4 (l5 + Int32.ofInt (1))
set_option maxHeartbeats 4000000 in
set_option maxRecDepth 100000 in
theorem T_X1_said_106 {P : mh_E → Prop} {N d : Nat} (hd : 3 ≤ d) {z : (Int32 × mh_H)} {k6 : mh_H → Nat → Int32 → Int32 → Int32 → Int32 → Int32 → Option (Int32 × mh_H)} (hk6 : ∀ (h : mh_H) (l0 : Nat) (l1 : Int32) (l2 : Int32) (l3 : Int32) (l4 : Int32) (l5 : Int32), k6 h l0 l1 l2 l3 l4 l5 = some z → mh_go P d mX1_said 6 [some (.ref l0), some (.int l1), some (.int l2), some (.int l3), some (.int l4), some (.int l5), none, none] [] h (some (.int z.1)) z.2) {h : mh_H} {l0 : Nat} {l1 : Int32} {l2 : Int32} {l3 : Int32} {l4 : Int32} {l5 : Int32} (hq : D_X1_said_106 N k6 h l0 l1 l2 l3 l4 l5 = some z) : mh_go P d mX1_said 106 [some (.ref l0), some (.int l1), some (.int l2), some (.int l3), some (.int l4), some (.int l5), none, none] [] h (some (.int z.1)) z.2 := by
  unfold D_X1_said_106 at hq
  refine st_iinc (pc := 106) (lv' := [some (.ref l0), some (.int l1), some (.int l2), some (.int l3), some (.int l4), some (.int (l5 + Int32.ofInt (1))), none, none]) dX1_said_106 rfl rfl (by decide) rfl ?_
  refine st_goto (pc := 109) (tgt := 6) dX1_said_109 (by decide) ?_
  exact hk6 _ _ _ _ _ _ _ hq
def D_X1_said_101 (N : Nat) (k6 : mh_H → Nat → Int32 → Int32 → Int32 → Int32 → Int32 → Option (Int32 × mh_H)) (h : mh_H) (l0 : Nat) (l1 : Int32) (l2 : Int32) (l3 : Int32) (l5 : Int32) (s0 : Int32) (s1 : Int32) : Option (Int32 × mh_H) :=
  D_X1_said_106 N k6 h l0 l1 l2 l3 (mh_max s0 s1) l5
set_option maxHeartbeats 4000000 in
set_option maxRecDepth 100000 in
theorem T_X1_said_101 {P : mh_E → Prop} {N d : Nat} (hd : 3 ≤ d) {z : (Int32 × mh_H)} {k6 : mh_H → Nat → Int32 → Int32 → Int32 → Int32 → Int32 → Option (Int32 × mh_H)} (hk6 : ∀ (h : mh_H) (l0 : Nat) (l1 : Int32) (l2 : Int32) (l3 : Int32) (l4 : Int32) (l5 : Int32), k6 h l0 l1 l2 l3 l4 l5 = some z → mh_go P d mX1_said 6 [some (.ref l0), some (.int l1), some (.int l2), some (.int l3), some (.int l4), some (.int l5), none, none] [] h (some (.int z.1)) z.2) {h : mh_H} {l0 : Nat} {l1 : Int32} {l2 : Int32} {l3 : Int32} {l5 : Int32} {s0 : Int32} {s1 : Int32} (hq : D_X1_said_101 N k6 h l0 l1 l2 l3 l5 s0 s1 = some z) : mh_go P d mX1_said 101 [some (.ref l0), some (.int l1), some (.int l2), some (.int l3), none, some (.int l5), none, none] [.int s1, .int s0] h (some (.int z.1)) z.2 := by
  unfold D_X1_said_101 at hq
  refine st_mmax (pc := 101) dX1_said_101 wd_896 (Nat.le_trans (by decide) hd) (Nat.le_of_ble_eq_true rfl) ?_
  refine st_istore (pc := 104) (lv' := [some (.ref l0), some (.int l1), some (.int l2), some (.int l3), some (.int (mh_max s0 s1)), some (.int l5), none, none]) dX1_said_104 rfl (by decide) rfl ?_
  exact T_X1_said_106 hd hk6 hq
def D_X1_said_74 (N : Nat) (k6 : mh_H → Nat → Int32 → Int32 → Int32 → Int32 → Int32 → Option (Int32 × mh_H)) (h : mh_H) (l0 : Nat) (l1 : Int32) (l2 : Int32) (l3 : Int32) (l4 : Int32) (l5 : Int32) (s0 : Int32) : Option (Int32 × mh_H) :=
  kO h 1 l0 <|
  (D_X1_saw N h l0 l5).bind fun q1 =>
  if q1.1 = 0 then (D_X1_said_101 N k6 q1.2 l0 l1 l2 l3 l5 l4 (1 : Int32))
  else (if s0 = 0 then (D_X1_said_101 N k6 q1.2 l0 l1 l2 l3 l5 l4 (2 : Int32))
  else (D_X1_said_101 N k6 q1.2 l0 l1 l2 l3 l5 l4 (3 : Int32)))
set_option maxHeartbeats 4000000 in
set_option maxRecDepth 100000 in
theorem T_X1_said_74 {P : mh_E → Prop} {N d : Nat} (hd : 3 ≤ d) {z : (Int32 × mh_H)} {k6 : mh_H → Nat → Int32 → Int32 → Int32 → Int32 → Int32 → Option (Int32 × mh_H)} (hk6 : ∀ (h : mh_H) (l0 : Nat) (l1 : Int32) (l2 : Int32) (l3 : Int32) (l4 : Int32) (l5 : Int32), k6 h l0 l1 l2 l3 l4 l5 = some z → mh_go P d mX1_said 6 [some (.ref l0), some (.int l1), some (.int l2), some (.int l3), some (.int l4), some (.int l5), none, none] [] h (some (.int z.1)) z.2) {h : mh_H} {l0 : Nat} {l1 : Int32} {l2 : Int32} {l3 : Int32} {l4 : Int32} {l5 : Int32} {s0 : Int32} (hq : D_X1_said_74 N k6 h l0 l1 l2 l3 l4 l5 s0 = some z) : mh_go P d mX1_said 74 [some (.ref l0), some (.int l1), some (.int l2), some (.int l3), some (.int l4), some (.int l5), none, none] [.int s0] h (some (.int z.1)) z.2 := by
  unfold D_X1_said_74 at hq
  refine st_istore (pc := 74) (lv' := [some (.ref l0), some (.int l1), some (.int l2), some (.int l3), some (.int l4), some (.int l5), none, some (.int s0)]) dX1_said_74 rfl (by decide) rfl ?_
  refine st_iload (pc := 76) dX1_said_76 rfl ?_
  refine st_aload_n (pc := 78) dX1_said_78 rfl ?_
  refine st_iload (pc := 79) dX1_said_79 rfl ?_
  obtain ⟨⟨hbq1, hkq1⟩, hq⟩ := mh_oi hq
  obtain ⟨q1, e1, hq⟩ := mh_ob hq
  refine st_invV (pc := 81) (ci := 1) (vs := [.int l5]) (rest := [.int l4]) (st2 := [.int q1.1, .int l4]) dX1_said_81 okX1_saw (by decide) hkq1 hbq1 wd_892 wd_894 wp_27 pdX1_saw rfl rfl rfl rfl (Nat.le_trans (by decide) hd) (Nat.le_of_ble_eq_true rfl) (T_X1_saw (Nat.le_refl _) e1) rfl ?_
  refine bd_if_ne (pc := 84) (tgt := 91) hq dX1_said_84 (by decide) (fun _ hq => ?_) (fun _ hq => ?_)
  ·
    refine st_iconst (pc := 87) (v := (1 : Int32)) dX1_said_87 rfl ?_
    refine st_goto (pc := 88) (tgt := 101) dX1_said_88 (by decide) ?_
    refine st_lesS (lv' := [some (.ref l0), some (.int l1), some (.int l2), some (.int l3), none, some (.int l5), none, none]) ⟨Or.inr rfl, Or.inr rfl, Or.inr rfl, Or.inr rfl, Or.inl rfl, Or.inr rfl, Or.inr rfl, Or.inl rfl, trivial⟩ ?_
    exact T_X1_said_101 hd hk6 hq
  ·
    refine st_iload (pc := 91) dX1_said_91 rfl ?_
    refine bd_if_eq (pc := 93) (tgt := 100) hq dX1_said_93 (by decide) (fun _ hq => ?_) (fun _ hq => ?_)
    ·
      refine st_iconst (pc := 100) (v := (2 : Int32)) dX1_said_100 rfl ?_
      refine st_lesS (lv' := [some (.ref l0), some (.int l1), some (.int l2), some (.int l3), none, some (.int l5), none, none]) ⟨Or.inr rfl, Or.inr rfl, Or.inr rfl, Or.inr rfl, Or.inl rfl, Or.inr rfl, Or.inr rfl, Or.inl rfl, trivial⟩ ?_
      exact T_X1_said_101 hd hk6 hq
    ·
      refine st_iconst (pc := 96) (v := (3 : Int32)) dX1_said_96 rfl ?_
      refine st_goto (pc := 97) (tgt := 101) dX1_said_97 (by decide) ?_
      refine st_lesS (lv' := [some (.ref l0), some (.int l1), some (.int l2), some (.int l3), none, some (.int l5), none, none]) ⟨Or.inr rfl, Or.inr rfl, Or.inr rfl, Or.inr rfl, Or.inl rfl, Or.inr rfl, Or.inr rfl, Or.inl rfl, trivial⟩ ?_
      exact T_X1_said_101 hd hk6 hq
def D_X1_said_37 (N : Nat) (k6 : mh_H → Nat → Int32 → Int32 → Int32 → Int32 → Int32 → Option (Int32 × mh_H)) (h : mh_H) (l0 : Nat) (l1 : Int32) (l2 : Int32) (l3 : Int32) (l4 : Int32) (l5 : Int32) (s0 : Int32) : Option (Int32 × mh_H) :=
  if s0 = 0 then (D_X1_said_106 N k6 h l0 l1 l2 l3 l4 l5)
  else (kO h 1 l0 <|
  (D_X1_isAbout N h l0 l5 l1 l2).bind fun q1 =>
  if q1.1 = 0 then (D_X1_said_106 N k6 q1.2 l0 l1 l2 l3 l4 l5)
  else (kO q1.2 1 l0 <|
  (D_X1_lookPart N q1.2 l0 l5 (7 : Int32)).bind fun q2 =>
  if q2.1 = ((1 : Int32) <<< (l1 &&& 31)) then (D_X1_said_74 N k6 q2.2 l0 l1 l2 l3 l4 l5 (1 : Int32))
  else (D_X1_said_74 N k6 q2.2 l0 l1 l2 l3 l4 l5 (0 : Int32))))
set_option maxHeartbeats 4000000 in
set_option maxRecDepth 100000 in
theorem T_X1_said_37 {P : mh_E → Prop} {N d : Nat} (hd : 3 ≤ d) {z : (Int32 × mh_H)} {k6 : mh_H → Nat → Int32 → Int32 → Int32 → Int32 → Int32 → Option (Int32 × mh_H)} (hk6 : ∀ (h : mh_H) (l0 : Nat) (l1 : Int32) (l2 : Int32) (l3 : Int32) (l4 : Int32) (l5 : Int32), k6 h l0 l1 l2 l3 l4 l5 = some z → mh_go P d mX1_said 6 [some (.ref l0), some (.int l1), some (.int l2), some (.int l3), some (.int l4), some (.int l5), none, none] [] h (some (.int z.1)) z.2) {h : mh_H} {l0 : Nat} {l1 : Int32} {l2 : Int32} {l3 : Int32} {l4 : Int32} {l5 : Int32} {s0 : Int32} (hq : D_X1_said_37 N k6 h l0 l1 l2 l3 l4 l5 s0 = some z) : mh_go P d mX1_said 37 [some (.ref l0), some (.int l1), some (.int l2), some (.int l3), some (.int l4), some (.int l5), none, none] [.int s0] h (some (.int z.1)) z.2 := by
  unfold D_X1_said_37 at hq
  refine st_istore (pc := 37) (lv' := [some (.ref l0), some (.int l1), some (.int l2), some (.int l3), some (.int l4), some (.int l5), some (.int s0), none]) dX1_said_37 rfl (by decide) rfl ?_
  refine st_iload (pc := 39) dX1_said_39 rfl ?_
  refine bd_if_eq (pc := 41) (tgt := 106) hq dX1_said_41 (by decide) (fun _ hq => ?_) (fun _ hq => ?_)
  ·
    refine st_lesS (lv' := [some (.ref l0), some (.int l1), some (.int l2), some (.int l3), some (.int l4), some (.int l5), none, none]) ⟨Or.inr rfl, Or.inr rfl, Or.inr rfl, Or.inr rfl, Or.inr rfl, Or.inr rfl, Or.inl rfl, Or.inr rfl, trivial⟩ ?_
    exact T_X1_said_106 hd hk6 hq
  ·
    refine st_aload_n (pc := 44) dX1_said_44 rfl ?_
    refine st_iload (pc := 45) dX1_said_45 rfl ?_
    refine st_iload_n (pc := 47) dX1_said_47 rfl ?_
    refine st_iload_n (pc := 48) dX1_said_48 rfl ?_
    obtain ⟨⟨hbq1, hkq1⟩, hq⟩ := mh_oi hq
    obtain ⟨q1, e1, hq⟩ := mh_ob hq
    refine st_invV (pc := 49) (ci := 1) (vs := [.int l5, .int l1, .int l2]) (rest := []) (st2 := [.int q1.1]) dX1_said_49 okX1_isAbout (by decide) hkq1 hbq1 wd_887 wd_889 wp_26 pdX1_isAbout rfl rfl rfl rfl (Nat.le_trans (by decide) hd) (Nat.le_of_ble_eq_true rfl) (T_X1_isAbout (Nat.le_refl _) e1) rfl ?_
    refine bd_if_eq (pc := 52) (tgt := 106) hq dX1_said_52 (by decide) (fun _ hq => ?_) (fun _ hq => ?_)
    ·
      refine st_lesS (lv' := [some (.ref l0), some (.int l1), some (.int l2), some (.int l3), some (.int l4), some (.int l5), none, none]) ⟨Or.inr rfl, Or.inr rfl, Or.inr rfl, Or.inr rfl, Or.inr rfl, Or.inr rfl, Or.inl rfl, Or.inr rfl, trivial⟩ ?_
      exact T_X1_said_106 hd hk6 hq
    ·
      refine st_aload_n (pc := 55) dX1_said_55 rfl ?_
      refine st_iload (pc := 56) dX1_said_56 rfl ?_
      refine st_bipush (pc := 58) (v := (7 : Int32)) dX1_said_58 (by decide) ?_
      obtain ⟨⟨hbq2, hkq2⟩, hq⟩ := mh_oi hq
      obtain ⟨q2, e2, hq⟩ := mh_ob hq
      refine st_invV (pc := 60) (ci := 1) (vs := [.int l5, .int (7 : Int32)]) (rest := []) (st2 := [.int q2.1]) dX1_said_60 okX1_lookPart (by decide) hkq2 hbq2 wd_883 wd_884 wd_885 pdX1_lookPart rfl rfl rfl rfl (Nat.le_trans (by decide) hd) (Nat.le_of_ble_eq_true rfl) (T_X1_lookPart (Nat.le_refl _) e2) rfl ?_
      refine st_iconst (pc := 63) (v := (1 : Int32)) dX1_said_63 rfl ?_
      refine st_iload_n (pc := 64) dX1_said_64 rfl ?_
      refine st_ishl (pc := 65) dX1_said_65 ?_
      refine bd_icmp_ne (pc := 66) (tgt := 73) hq dX1_said_66 (by decide) (fun _ hq => ?_) (fun _ hq => ?_)
      ·
        refine st_iconst (pc := 69) (v := (1 : Int32)) dX1_said_69 rfl ?_
        refine st_goto (pc := 70) (tgt := 74) dX1_said_70 (by decide) ?_
        refine st_lesS (lv' := [some (.ref l0), some (.int l1), some (.int l2), some (.int l3), some (.int l4), some (.int l5), none, none]) ⟨Or.inr rfl, Or.inr rfl, Or.inr rfl, Or.inr rfl, Or.inr rfl, Or.inr rfl, Or.inl rfl, Or.inr rfl, trivial⟩ ?_
        exact T_X1_said_74 hd hk6 hq
      ·
        refine st_iconst (pc := 73) (v := (0 : Int32)) dX1_said_73 rfl ?_
        refine st_lesS (lv' := [some (.ref l0), some (.int l1), some (.int l2), some (.int l3), some (.int l4), some (.int l5), none, none]) ⟨Or.inr rfl, Or.inr rfl, Or.inr rfl, Or.inr rfl, Or.inr rfl, Or.inr rfl, Or.inl rfl, Or.inr rfl, trivial⟩ ?_
        exact T_X1_said_74 hd hk6 hq
def D_X1_said_32 (N : Nat) (k6 : mh_H → Nat → Int32 → Int32 → Int32 → Int32 → Int32 → Option (Int32 × mh_H)) (h : mh_H) (l0 : Nat) (l1 : Int32) (l2 : Int32) (l3 : Int32) (l4 : Int32) (l5 : Int32) : Option (Int32 × mh_H) :=
  D_X1_said_37 N k6 h l0 l1 l2 l3 l4 l5 (1 : Int32)
set_option maxHeartbeats 4000000 in
set_option maxRecDepth 100000 in
theorem T_X1_said_32 {P : mh_E → Prop} {N d : Nat} (hd : 3 ≤ d) {z : (Int32 × mh_H)} {k6 : mh_H → Nat → Int32 → Int32 → Int32 → Int32 → Int32 → Option (Int32 × mh_H)} (hk6 : ∀ (h : mh_H) (l0 : Nat) (l1 : Int32) (l2 : Int32) (l3 : Int32) (l4 : Int32) (l5 : Int32), k6 h l0 l1 l2 l3 l4 l5 = some z → mh_go P d mX1_said 6 [some (.ref l0), some (.int l1), some (.int l2), some (.int l3), some (.int l4), some (.int l5), none, none] [] h (some (.int z.1)) z.2) {h : mh_H} {l0 : Nat} {l1 : Int32} {l2 : Int32} {l3 : Int32} {l4 : Int32} {l5 : Int32} (hq : D_X1_said_32 N k6 h l0 l1 l2 l3 l4 l5 = some z) : mh_go P d mX1_said 32 [some (.ref l0), some (.int l1), some (.int l2), some (.int l3), some (.int l4), some (.int l5), none, none] [] h (some (.int z.1)) z.2 := by
  unfold D_X1_said_32 at hq
  refine st_iconst (pc := 32) (v := (1 : Int32)) dX1_said_32 rfl ?_
  refine st_goto (pc := 33) (tgt := 37) dX1_said_33 (by decide) ?_
  exact T_X1_said_37 hd hk6 hq
def D_X1_said_6 (N : Nat) : Nat → mh_H → Nat → Int32 → Int32 → Int32 → Int32 → Int32 → Option (Int32 × mh_H)
  | 0, _, _, _, _, _, _, _ => none
  | F + 1, h, l0, l1, l2, l3, l4, l5 =>
    (gI h 1 l0 1).bind fun v1 =>
    if v1 ≤ l5 then (some (l4, h))
    else (if l3 = 0 then (D_X1_said_32 N (D_X1_said_6 N F) h l0 l1 l2 l3 l4 l5)
    else (kO h 1 l0 <|
    (D_X1_lookPart N h l0 l5 (5 : Int32)).bind fun q2 =>
    if q2.1 = (l3 - (1 : Int32)) then (D_X1_said_32 N (D_X1_said_6 N F) q2.2 l0 l1 l2 l3 l4 l5)
    else (D_X1_said_37 N (D_X1_said_6 N F) q2.2 l0 l1 l2 l3 l4 l5 (0 : Int32))))
set_option maxHeartbeats 4000000 in
set_option maxRecDepth 100000 in
theorem T_X1_said_6 {P : mh_E → Prop} {N d : Nat} (hd : 3 ≤ d) {z : (Int32 × mh_H)} : ∀ (F : Nat) (h : mh_H) (l0 : Nat) (l1 : Int32) (l2 : Int32) (l3 : Int32) (l4 : Int32) (l5 : Int32), D_X1_said_6 N F h l0 l1 l2 l3 l4 l5 = some z → mh_go P d mX1_said 6 [some (.ref l0), some (.int l1), some (.int l2), some (.int l3), some (.int l4), some (.int l5), none, none] [] h (some (.int z.1)) z.2 := by
  intro F
  induction F with
  | zero => intro h l0 l1 l2 l3 l4 l5 hq; rw [D_X1_said_6] at hq; cases hq
  | succ F ih =>
    intro h l0 l1 l2 l3 l4 l5 hq
    rw [D_X1_said_6] at hq
    refine st_iload (pc := 6) dX1_said_6 rfl ?_
    refine st_aload_n (pc := 8) dX1_said_8 rfl ?_
    refine bd_geti (pc := 9) hq dX1_said_9 fl_1_15_1 rfl (fun v1 hq => ?_)
    refine bd_icmp_ge (pc := 12) (tgt := 112) hq dX1_said_12 (by decide) (fun _ hq => ?_) (fun _ hq => ?_)
    ·
      refine st_iload (pc := 112) dX1_said_112 rfl ?_
      exact bd_iret (pc := 114) hq dX1_said_114 rfl
    ·
      refine st_iload_n (pc := 15) dX1_said_15 rfl ?_
      refine bd_if_eq (pc := 16) (tgt := 32) hq dX1_said_16 (by decide) (fun _ hq => ?_) (fun _ hq => ?_)
      ·
        exact T_X1_said_32 hd ih hq
      ·
        refine st_aload_n (pc := 19) dX1_said_19 rfl ?_
        refine st_iload (pc := 20) dX1_said_20 rfl ?_
        refine st_iconst (pc := 22) (v := (5 : Int32)) dX1_said_22 rfl ?_
        obtain ⟨⟨hbq2, hkq2⟩, hq⟩ := mh_oi hq
        obtain ⟨q2, e2, hq⟩ := mh_ob hq
        refine st_invV (pc := 23) (ci := 1) (vs := [.int l5, .int (5 : Int32)]) (rest := []) (st2 := [.int q2.1]) dX1_said_23 okX1_lookPart (by decide) hkq2 hbq2 wd_883 wd_884 wd_885 pdX1_lookPart rfl rfl rfl rfl (Nat.le_trans (by decide) hd) (Nat.le_of_ble_eq_true rfl) (T_X1_lookPart (Nat.le_refl _) e2) rfl ?_
        refine st_iload_n (pc := 26) dX1_said_26 rfl ?_
        refine st_iconst (pc := 27) (v := (1 : Int32)) dX1_said_27 rfl ?_
        refine st_isub (pc := 28) dX1_said_28 ?_
        refine bd_icmp_ne (pc := 29) (tgt := 36) hq dX1_said_29 (by decide) (fun _ hq => ?_) (fun _ hq => ?_)
        ·
          exact T_X1_said_32 hd ih hq
        ·
          refine st_iconst (pc := 36) (v := (0 : Int32)) dX1_said_36 rfl ?_
          exact T_X1_said_37 hd ih hq
def D_X1_said (N : Nat) (h : mh_H) (l0 : Nat) (l1 : Int32) (l2 : Int32) (l3 : Int32) : Option (Int32 × mh_H) :=
  D_X1_said_6 N N h l0 l1 l2 l3 (0 : Int32) (0 : Int32)
set_option maxHeartbeats 4000000 in
set_option maxRecDepth 100000 in
theorem T_X1_said {P : mh_E → Prop} {N d : Nat} (hd : 3 ≤ d) {z : (Int32 × mh_H)} {h : mh_H} {l0 : Nat} {l1 : Int32} {l2 : Int32} {l3 : Int32} (hq : D_X1_said N h l0 l1 l2 l3 = some z) : mh_go P d mX1_said 0 [some (.ref l0), some (.int l1), some (.int l2), some (.int l3), none, none, none, none] [] h (some (.int z.1)) z.2 := by
  unfold D_X1_said at hq
  refine st_iconst (pc := 0) (v := (0 : Int32)) dX1_said_0 rfl ?_
  refine st_istore (pc := 1) (lv' := [some (.ref l0), some (.int l1), some (.int l2), some (.int l3), some (.int (0 : Int32)), none, none, none]) dX1_said_1 rfl (by decide) rfl ?_
  refine st_iconst (pc := 3) (v := (0 : Int32)) dX1_said_3 rfl ?_
  refine st_istore (pc := 4) (lv' := [some (.ref l0), some (.int l1), some (.int l2), some (.int l3), some (.int (0 : Int32)), some (.int (0 : Int32)), none, none]) dX1_said_4 rfl (by decide) rfl ?_
  exact T_X1_said_6 hd N _ _ _ _ _ _ _ hq
-- HoleWater.joined(III)I
theorem dX11_joined_23 : decode cX11_joined 23 = .ok (.aload_n 0, 1) := by decide +kernel
theorem dX11_joined_24 : decode cX11_joined 24 = .ok (.iconst 1, 1) := by decide +kernel
theorem dX11_joined_25 : decode cX11_joined 25 = .ok (.invokevirtual 66, 3) := by decide +kernel
theorem dX11_joined_28 : decode cX11_joined 28 = .ok (.ireturn, 1) := by decide +kernel
theorem dX11_joined_0 : decode cX11_joined 0 = .ok (.aload_n 0, 1) := by decide +kernel
theorem dX11_joined_1 : decode cX11_joined 1 = .ok (.iload_n 1, 1) := by decide +kernel
theorem dX11_joined_2 : decode cX11_joined 2 = .ok (.iload_n 2, 1) := by decide +kernel
theorem dX11_joined_3 : decode cX11_joined 3 = .ok (.invokevirtual 280, 3) := by decide +kernel
theorem dX11_joined_6 : decode cX11_joined 6 = .ok (.istore 4, 2) := by decide +kernel
theorem dX11_joined_8 : decode cX11_joined 8 = .ok (.iload 4, 2) := by decide +kernel
theorem dX11_joined_10 : decode cX11_joined 10 = .ok (.iconst 1, 1) := by decide +kernel
theorem dX11_joined_11 : decode cX11_joined 11 = .ok (.if_icmp .eq 12, 3) := by decide +kernel
theorem dX11_joined_14 : decode cX11_joined 14 = .ok (.iload_n 3, 1) := by decide +kernel
theorem dX11_joined_15 : decode cX11_joined 15 = .ok (.iconst 0, 1) := by decide +kernel
theorem dX11_joined_16 : decode cX11_joined 16 = .ok (.iconst 2, 1) := by decide +kernel
theorem dX11_joined_17 : decode cX11_joined 17 = .ok (.invokestatic 62, 3) := by decide +kernel
theorem dX11_joined_20 : decode cX11_joined 20 = .ok (.ifCond .ne 9, 3) := by decide +kernel
theorem dX11_joined_29 : decode cX11_joined 29 = .ok (.iload 4, 2) := by decide +kernel
theorem dX11_joined_31 : decode cX11_joined 31 = .ok (.ifCond .eq 12, 3) := by decide +kernel
theorem dX11_joined_43 : decode cX11_joined 43 = .ok (.aload_n 0, 1) := by decide +kernel
theorem dX11_joined_44 : decode cX11_joined 44 = .ok (.getfield 12, 3) := by decide +kernel
theorem dX11_joined_47 : decode cX11_joined 47 = .ok (.getfield 196, 3) := by decide +kernel
theorem dX11_joined_50 : decode cX11_joined 50 = .ok (.iload_n 1, 1) := by decide +kernel
theorem dX11_joined_51 : decode cX11_joined 51 = .ok (.iload_n 2, 1) := by decide +kernel
theorem dX11_joined_52 : decode cX11_joined 52 = .ok (.iload_n 3, 1) := by decide +kernel
theorem dX11_joined_53 : decode cX11_joined 53 = .ok (.invokevirtual 283, 3) := by decide +kernel
theorem dX11_joined_56 : decode cX11_joined 56 = .ok (.ireturn, 1) := by decide +kernel
theorem dX11_joined_34 : decode cX11_joined 34 = .ok (.aload_n 0, 1) := by decide +kernel
theorem dX11_joined_35 : decode cX11_joined 35 = .ok (.iload 4, 2) := by decide +kernel
theorem dX11_joined_37 : decode cX11_joined 37 = .ok (.invokevirtual 66, 3) := by decide +kernel
theorem dX11_joined_40 : decode cX11_joined 40 = .ok (.goto 16, 3) := by decide +kernel
def D_X11_joined_23 (N : Nat) (h : mh_H) (l0 : Nat) : Option (Int32 × mh_H) :=
  kO h 11 l0 <|
  (D_X11_error N h l0 (1 : Int32)).bind fun q1 =>
  some (q1.1, q1.2)
set_option maxHeartbeats 4000000 in
set_option maxRecDepth 100000 in
theorem T_X11_joined_23 {P : mh_E → Prop} {N d : Nat} (hd : 4 ≤ d) {z : (Int32 × mh_H)} {h : mh_H} {l0 : Nat} (hq : D_X11_joined_23 N h l0 = some z) : mh_go P d mX11_joined 23 [some (.ref l0), none, none, none, none] [] h (some (.int z.1)) z.2 := by
  unfold D_X11_joined_23 at hq
  refine st_aload_n (pc := 23) dX11_joined_23 rfl ?_
  refine st_iconst (pc := 24) (v := (1 : Int32)) dX11_joined_24 rfl ?_
  obtain ⟨⟨hbq1, hkq1⟩, hq⟩ := mh_oi hq
  obtain ⟨q1, e1, hq⟩ := mh_ob hq
  refine st_invV (pc := 25) (ci := 11) (vs := [.int (1 : Int32)]) (rest := []) (st2 := [.int q1.1]) dX11_joined_25 okX11_error (by decide) hkq1 hbq1 wd_326 wd_328 wp_0 pdX11_error rfl rfl rfl rfl (Nat.le_trans (by decide) hd) (Nat.le_of_ble_eq_true rfl) (T_X11_error (Nat.le_refl _) e1) rfl ?_
  exact bd_iret (pc := 28) hq dX11_joined_28 rfl
def D_X11_joined (N : Nat) (h : mh_H) (l0 : Nat) (l1 : Int32) (l2 : Int32) (l3 : Int32) : Option (Int32 × mh_H) :=
  kO h 11 l0 <|
  (D_X11_pairError N h l0 l1 l2).bind fun q1 =>
  if q1.1 = (1 : Int32) then (D_X11_joined_23 N q1.2 l0)
  else ((D_X11_within N q1.2 l3 (0 : Int32) (2 : Int32)).bind fun q2 =>
  if q2.1 = 0 then (D_X11_joined_23 N q2.2 l0)
  else (if q1.1 = 0 then ((gR q2.2 11 l0 0).bind fun v3 =>
  (gR q2.2 10 v3 8).bind fun v4 =>
  kO q2.2 1 v4 <|
  (D_X1_said N q2.2 v4 l1 l2 l3).bind fun q5 =>
  some (q5.1, q5.2))
  else (kO q2.2 11 l0 <|
  (D_X11_error N q2.2 l0 q1.1).bind fun q3 =>
  some (q3.1, q3.2))))
set_option maxHeartbeats 4000000 in
set_option maxRecDepth 100000 in
theorem T_X11_joined {P : mh_E → Prop} {N d : Nat} (hd : 4 ≤ d) {z : (Int32 × mh_H)} {h : mh_H} {l0 : Nat} {l1 : Int32} {l2 : Int32} {l3 : Int32} (hq : D_X11_joined N h l0 l1 l2 l3 = some z) : mh_go P d mX11_joined 0 [some (.ref l0), some (.int l1), some (.int l2), some (.int l3), none] [] h (some (.int z.1)) z.2 := by
  unfold D_X11_joined at hq
  refine st_aload_n (pc := 0) dX11_joined_0 rfl ?_
  refine st_iload_n (pc := 1) dX11_joined_1 rfl ?_
  refine st_iload_n (pc := 2) dX11_joined_2 rfl ?_
  obtain ⟨⟨hbq1, hkq1⟩, hq⟩ := mh_oi hq
  obtain ⟨q1, e1, hq⟩ := mh_ob hq
  refine st_invV (pc := 3) (ci := 11) (vs := [.int l1, .int l2]) (rest := []) (st2 := [.int q1.1]) dX11_joined_3 okX11_pairError (by decide) hkq1 hbq1 wd_875 wd_877 wp_25 pdX11_pairError rfl rfl rfl rfl (Nat.le_trans (by decide) hd) (Nat.le_of_ble_eq_true rfl) (T_X11_pairError (Nat.le_refl _) e1) rfl ?_
  refine st_istore (pc := 6) (lv' := [some (.ref l0), some (.int l1), some (.int l2), some (.int l3), some (.int q1.1)]) dX11_joined_6 rfl (by decide) rfl ?_
  refine st_iload (pc := 8) dX11_joined_8 rfl ?_
  refine st_iconst (pc := 10) (v := (1 : Int32)) dX11_joined_10 rfl ?_
  refine bd_icmp_eq (pc := 11) (tgt := 23) hq dX11_joined_11 (by decide) (fun _ hq => ?_) (fun _ hq => ?_)
  ·
    refine st_lesS (lv' := [some (.ref l0), none, none, none, none]) ⟨Or.inr rfl, Or.inl rfl, Or.inl rfl, Or.inl rfl, Or.inl rfl, trivial⟩ ?_
    exact T_X11_joined_23 hd hq
  ·
    refine st_iload_n (pc := 14) dX11_joined_14 rfl ?_
    refine st_iconst (pc := 15) (v := (0 : Int32)) dX11_joined_15 rfl ?_
    refine st_iconst (pc := 16) (v := (2 : Int32)) dX11_joined_16 rfl ?_
    obtain ⟨q2, e2, hq⟩ := mh_ob hq
    refine st_invS (pc := 17) (Y := mX11_within) (vs := [.int l3, .int (0 : Int32), .int (2 : Int32)]) (rest := []) (st2 := [.int q2.1]) dX11_joined_17 okX11_within wd_323 wd_324 pdX11_within rfl rfl rfl rfl (Nat.le_trans (by decide) hd) (Nat.le_of_ble_eq_true rfl) (T_X11_within (Nat.le_refl _) e2) rfl ?_
    refine bd_if_ne (pc := 20) (tgt := 29) hq dX11_joined_20 (by decide) (fun _ hq => ?_) (fun _ hq => ?_)
    ·
      refine st_lesS (lv' := [some (.ref l0), none, none, none, none]) ⟨Or.inr rfl, Or.inl rfl, Or.inl rfl, Or.inl rfl, Or.inl rfl, trivial⟩ ?_
      exact T_X11_joined_23 hd hq
    ·
      refine st_iload (pc := 29) dX11_joined_29 rfl ?_
      refine bd_if_eq (pc := 31) (tgt := 43) hq dX11_joined_31 (by decide) (fun _ hq => ?_) (fun _ hq => ?_)
      ·
        refine st_aload_n (pc := 43) dX11_joined_43 rfl ?_
        refine bd_getr (pc := 44) hq dX11_joined_44 fl_11_12_11 rfl (fun v3 hq => ?_)
        refine bd_getr (pc := 47) hq dX11_joined_47 fl_11_196_10 rfl (fun v4 hq => ?_)
        refine st_iload_n (pc := 50) dX11_joined_50 rfl ?_
        refine st_iload_n (pc := 51) dX11_joined_51 rfl ?_
        refine st_iload_n (pc := 52) dX11_joined_52 rfl ?_
        obtain ⟨⟨hbq5, hkq5⟩, hq⟩ := mh_oi hq
        obtain ⟨q5, e5, hq⟩ := mh_ob hq
        refine st_invV (pc := 53) (ci := 1) (vs := [.int l1, .int l2, .int l3]) (rest := []) (st2 := [.int q5.1]) dX11_joined_53 okX1_said (by decide) hkq5 hbq5 wd_879 wd_880 wd_881 pdX1_said rfl rfl rfl rfl (Nat.le_trans (by decide) hd) (Nat.le_of_ble_eq_true rfl) (T_X1_said (Nat.le_refl _) e5) rfl ?_
        exact bd_iret (pc := 56) hq dX11_joined_56 rfl
      ·
        refine st_aload_n (pc := 34) dX11_joined_34 rfl ?_
        refine st_iload (pc := 35) dX11_joined_35 rfl ?_
        obtain ⟨⟨hbq3, hkq3⟩, hq⟩ := mh_oi hq
        obtain ⟨q3, e3, hq⟩ := mh_ob hq
        refine st_invV (pc := 37) (ci := 11) (vs := [.int q1.1]) (rest := []) (st2 := [.int q3.1]) dX11_joined_37 okX11_error (by decide) hkq3 hbq3 wd_326 wd_328 wp_0 pdX11_error rfl rfl rfl rfl (Nat.le_trans (by decide) hd) (Nat.le_of_ble_eq_true rfl) (T_X11_error (Nat.le_refl _) e3) rfl ?_
        refine st_goto (pc := 40) (tgt := 56) dX11_joined_40 (by decide) ?_
        exact bd_iret (pc := 56) hq dX11_joined_56 rfl
-- HoleWater$Looks.inVain(II)I
theorem dX1_inVain_37 : decode cX1_inVain 37 = .ok (.iinc 4 1, 3) := by decide +kernel
theorem dX1_inVain_40 : decode cX1_inVain 40 = .ok (.goto (-35), 3) := by decide +kernel
theorem dX1_inVain_5 : decode cX1_inVain 5 = .ok (.iload 4, 2) := by decide +kernel
theorem dX1_inVain_7 : decode cX1_inVain 7 = .ok (.aload_n 0, 1) := by decide +kernel
theorem dX1_inVain_8 : decode cX1_inVain 8 = .ok (.getfield 15, 3) := by decide +kernel
theorem dX1_inVain_11 : decode cX1_inVain 11 = .ok (.if_icmp .ge 32, 3) := by decide +kernel
theorem dX1_inVain_43 : decode cX1_inVain 43 = .ok (.iload_n 3, 1) := by decide +kernel
theorem dX1_inVain_44 : decode cX1_inVain 44 = .ok (.ireturn, 1) := by decide +kernel
theorem dX1_inVain_14 : decode cX1_inVain 14 = .ok (.aload_n 0, 1) := by decide +kernel
theorem dX1_inVain_15 : decode cX1_inVain 15 = .ok (.iload 4, 2) := by decide +kernel
theorem dX1_inVain_17 : decode cX1_inVain 17 = .ok (.iload_n 1, 1) := by decide +kernel
theorem dX1_inVain_18 : decode cX1_inVain 18 = .ok (.iload_n 2, 1) := by decide +kernel
theorem dX1_inVain_19 : decode cX1_inVain 19 = .ok (.invokevirtual 66, 3) := by decide +kernel
theorem dX1_inVain_22 : decode cX1_inVain 22 = .ok (.ifCond .eq 15, 3) := by decide +kernel
theorem dX1_inVain_25 : decode cX1_inVain 25 = .ok (.aload_n 0, 1) := by decide +kernel
theorem dX1_inVain_26 : decode cX1_inVain 26 = .ok (.iload 4, 2) := by decide +kernel
theorem dX1_inVain_28 : decode cX1_inVain 28 = .ok (.invokevirtual 70, 3) := by decide +kernel
theorem dX1_inVain_31 : decode cX1_inVain 31 = .ok (.ifCond .ne 6, 3) := by decide +kernel
theorem dX1_inVain_34 : decode cX1_inVain 34 = .ok (.iinc 3 1, 3) := by decide +kernel
theorem dX1_inVain_0 : decode cX1_inVain 0 = .ok (.iconst 0, 1) := by decide +kernel
theorem dX1_inVain_1 : decode cX1_inVain 1 = .ok (.istore_n 3, 1) := by decide +kernel
theorem dX1_inVain_2 : decode cX1_inVain 2 = .ok (.iconst 0, 1) := by decide +kernel
theorem dX1_inVain_3 : decode cX1_inVain 3 = .ok (.istore 4, 2) := by decide +kernel
def D_X1_inVain_37 (N : Nat) (k5 : mh_H → Nat → Int32 → Int32 → Int32 → Int32 → Option (Int32 × mh_H)) (h : mh_H) (l0 : Nat) (l1 : Int32) (l2 : Int32) (l3 : Int32) (l4 : Int32) : Option (Int32 × mh_H) :=
  k5 h l0 l1 l2 l3 (l4 + Int32.ofInt (1))
set_option maxHeartbeats 4000000 in
set_option maxRecDepth 100000 in
theorem T_X1_inVain_37 {P : mh_E → Prop} {N d : Nat} (hd : 3 ≤ d) {z : (Int32 × mh_H)} {k5 : mh_H → Nat → Int32 → Int32 → Int32 → Int32 → Option (Int32 × mh_H)} (hk5 : ∀ (h : mh_H) (l0 : Nat) (l1 : Int32) (l2 : Int32) (l3 : Int32) (l4 : Int32), k5 h l0 l1 l2 l3 l4 = some z → mh_go P d mX1_inVain 5 [some (.ref l0), some (.int l1), some (.int l2), some (.int l3), some (.int l4)] [] h (some (.int z.1)) z.2) {h : mh_H} {l0 : Nat} {l1 : Int32} {l2 : Int32} {l3 : Int32} {l4 : Int32} (hq : D_X1_inVain_37 N k5 h l0 l1 l2 l3 l4 = some z) : mh_go P d mX1_inVain 37 [some (.ref l0), some (.int l1), some (.int l2), some (.int l3), some (.int l4)] [] h (some (.int z.1)) z.2 := by
  unfold D_X1_inVain_37 at hq
  refine st_iinc (pc := 37) (lv' := [some (.ref l0), some (.int l1), some (.int l2), some (.int l3), some (.int (l4 + Int32.ofInt (1)))]) dX1_inVain_37 rfl rfl (by decide) rfl ?_
  refine st_goto (pc := 40) (tgt := 5) dX1_inVain_40 (by decide) ?_
  exact hk5 _ _ _ _ _ _ hq
def D_X1_inVain_5 (N : Nat) : Nat → mh_H → Nat → Int32 → Int32 → Int32 → Int32 → Option (Int32 × mh_H)
  | 0, _, _, _, _, _, _ => none
  | F + 1, h, l0, l1, l2, l3, l4 =>
    (gI h 1 l0 1).bind fun v1 =>
    if v1 ≤ l4 then (some (l3, h))
    else (kO h 1 l0 <|
    (D_X1_isAbout N h l0 l4 l1 l2).bind fun q2 =>
    if q2.1 = 0 then (D_X1_inVain_37 N (D_X1_inVain_5 N F) q2.2 l0 l1 l2 l3 l4)
    else (kO q2.2 1 l0 <|
    (D_X1_saw N q2.2 l0 l4).bind fun q3 =>
    if q3.1 = 0 then (D_X1_inVain_37 N (D_X1_inVain_5 N F) q3.2 l0 l1 l2 (l3 + Int32.ofInt (1)) l4)
    else (D_X1_inVain_37 N (D_X1_inVain_5 N F) q3.2 l0 l1 l2 l3 l4)))
set_option maxHeartbeats 4000000 in
set_option maxRecDepth 100000 in
theorem T_X1_inVain_5 {P : mh_E → Prop} {N d : Nat} (hd : 3 ≤ d) {z : (Int32 × mh_H)} : ∀ (F : Nat) (h : mh_H) (l0 : Nat) (l1 : Int32) (l2 : Int32) (l3 : Int32) (l4 : Int32), D_X1_inVain_5 N F h l0 l1 l2 l3 l4 = some z → mh_go P d mX1_inVain 5 [some (.ref l0), some (.int l1), some (.int l2), some (.int l3), some (.int l4)] [] h (some (.int z.1)) z.2 := by
  intro F
  induction F with
  | zero => intro h l0 l1 l2 l3 l4 hq; rw [D_X1_inVain_5] at hq; cases hq
  | succ F ih =>
    intro h l0 l1 l2 l3 l4 hq
    rw [D_X1_inVain_5] at hq
    refine st_iload (pc := 5) dX1_inVain_5 rfl ?_
    refine st_aload_n (pc := 7) dX1_inVain_7 rfl ?_
    refine bd_geti (pc := 8) hq dX1_inVain_8 fl_1_15_1 rfl (fun v1 hq => ?_)
    refine bd_icmp_ge (pc := 11) (tgt := 43) hq dX1_inVain_11 (by decide) (fun _ hq => ?_) (fun _ hq => ?_)
    ·
      refine st_iload_n (pc := 43) dX1_inVain_43 rfl ?_
      exact bd_iret (pc := 44) hq dX1_inVain_44 rfl
    ·
      refine st_aload_n (pc := 14) dX1_inVain_14 rfl ?_
      refine st_iload (pc := 15) dX1_inVain_15 rfl ?_
      refine st_iload_n (pc := 17) dX1_inVain_17 rfl ?_
      refine st_iload_n (pc := 18) dX1_inVain_18 rfl ?_
      obtain ⟨⟨hbq2, hkq2⟩, hq⟩ := mh_oi hq
      obtain ⟨q2, e2, hq⟩ := mh_ob hq
      refine st_invV (pc := 19) (ci := 1) (vs := [.int l4, .int l1, .int l2]) (rest := []) (st2 := [.int q2.1]) dX1_inVain_19 okX1_isAbout (by decide) hkq2 hbq2 wd_887 wd_889 wp_26 pdX1_isAbout rfl rfl rfl rfl (Nat.le_trans (by decide) hd) (Nat.le_of_ble_eq_true rfl) (T_X1_isAbout (Nat.le_refl _) e2) rfl ?_
      refine bd_if_eq (pc := 22) (tgt := 37) hq dX1_inVain_22 (by decide) (fun _ hq => ?_) (fun _ hq => ?_)
      ·
        exact T_X1_inVain_37 hd ih hq
      ·
        refine st_aload_n (pc := 25) dX1_inVain_25 rfl ?_
        refine st_iload (pc := 26) dX1_inVain_26 rfl ?_
        obtain ⟨⟨hbq3, hkq3⟩, hq⟩ := mh_oi hq
        obtain ⟨q3, e3, hq⟩ := mh_ob hq
        refine st_invV (pc := 28) (ci := 1) (vs := [.int l4]) (rest := []) (st2 := [.int q3.1]) dX1_inVain_28 okX1_saw (by decide) hkq3 hbq3 wd_892 wd_894 wp_27 pdX1_saw rfl rfl rfl rfl (Nat.le_trans (by decide) hd) (Nat.le_of_ble_eq_true rfl) (T_X1_saw (Nat.le_refl _) e3) rfl ?_
        refine bd_if_ne (pc := 31) (tgt := 37) hq dX1_inVain_31 (by decide) (fun _ hq => ?_) (fun _ hq => ?_)
        ·
          refine st_iinc (pc := 34) (lv' := [some (.ref l0), some (.int l1), some (.int l2), some (.int (l3 + Int32.ofInt (1))), some (.int l4)]) dX1_inVain_34 rfl rfl (by decide) rfl ?_
          exact T_X1_inVain_37 hd ih hq
        ·
          exact T_X1_inVain_37 hd ih hq
def D_X1_inVain (N : Nat) (h : mh_H) (l0 : Nat) (l1 : Int32) (l2 : Int32) : Option (Int32 × mh_H) :=
  D_X1_inVain_5 N N h l0 l1 l2 (0 : Int32) (0 : Int32)
set_option maxHeartbeats 4000000 in
set_option maxRecDepth 100000 in
theorem T_X1_inVain {P : mh_E → Prop} {N d : Nat} (hd : 3 ≤ d) {z : (Int32 × mh_H)} {h : mh_H} {l0 : Nat} {l1 : Int32} {l2 : Int32} (hq : D_X1_inVain N h l0 l1 l2 = some z) : mh_go P d mX1_inVain 0 [some (.ref l0), some (.int l1), some (.int l2), none, none] [] h (some (.int z.1)) z.2 := by
  unfold D_X1_inVain at hq
  refine st_iconst (pc := 0) (v := (0 : Int32)) dX1_inVain_0 rfl ?_
  refine st_istore_n (pc := 1) (lv' := [some (.ref l0), some (.int l1), some (.int l2), some (.int (0 : Int32)), none]) dX1_inVain_1 rfl (by decide) rfl ?_
  refine st_iconst (pc := 2) (v := (0 : Int32)) dX1_inVain_2 rfl ?_
  refine st_istore (pc := 3) (lv' := [some (.ref l0), some (.int l1), some (.int l2), some (.int (0 : Int32)), some (.int (0 : Int32))]) dX1_inVain_3 rfl (by decide) rfl ?_
  exact T_X1_inVain_5 hd N _ _ _ _ _ _ hq
-- HoleWater.never(II)I
theorem dX11_never_0 : decode cX11_never 0 = .ok (.aload_n 0, 1) := by decide +kernel
theorem dX11_never_1 : decode cX11_never 1 = .ok (.iload_n 1, 1) := by decide +kernel
theorem dX11_never_2 : decode cX11_never 2 = .ok (.iload_n 2, 1) := by decide +kernel
theorem dX11_never_3 : decode cX11_never 3 = .ok (.invokevirtual 280, 3) := by decide +kernel
theorem dX11_never_6 : decode cX11_never 6 = .ok (.istore_n 3, 1) := by decide +kernel
theorem dX11_never_7 : decode cX11_never 7 = .ok (.iload_n 3, 1) := by decide +kernel
theorem dX11_never_8 : decode cX11_never 8 = .ok (.ifCond .eq 11, 3) := by decide +kernel
theorem dX11_never_19 : decode cX11_never 19 = .ok (.aload_n 0, 1) := by decide +kernel
theorem dX11_never_20 : decode cX11_never 20 = .ok (.getfield 12, 3) := by decide +kernel
theorem dX11_never_23 : decode cX11_never 23 = .ok (.getfield 196, 3) := by decide +kernel
theorem dX11_never_26 : decode cX11_never 26 = .ok (.iload_n 1, 1) := by decide +kernel
theorem dX11_never_27 : decode cX11_never 27 = .ok (.iload_n 2, 1) := by decide +kernel
theorem dX11_never_28 : decode cX11_never 28 = .ok (.invokevirtual 286, 3) := by decide +kernel
theorem dX11_never_31 : decode cX11_never 31 = .ok (.ireturn, 1) := by decide +kernel
theorem dX11_never_11 : decode cX11_never 11 = .ok (.aload_n 0, 1) := by decide +kernel
theorem dX11_never_12 : decode cX11_never 12 = .ok (.iload_n 3, 1) := by decide +kernel
theorem dX11_never_13 : decode cX11_never 13 = .ok (.invokevirtual 66, 3) := by decide +kernel
theorem dX11_never_16 : decode cX11_never 16 = .ok (.goto 15, 3) := by decide +kernel
def D_X11_never (N : Nat) (h : mh_H) (l0 : Nat) (l1 : Int32) (l2 : Int32) : Option (Int32 × mh_H) :=
  kO h 11 l0 <|
  (D_X11_pairError N h l0 l1 l2).bind fun q1 =>
  if q1.1 = 0 then ((gR q1.2 11 l0 0).bind fun v2 =>
  (gR q1.2 10 v2 8).bind fun v3 =>
  kO q1.2 1 v3 <|
  (D_X1_inVain N q1.2 v3 l1 l2).bind fun q4 =>
  some (q4.1, q4.2))
  else (kO q1.2 11 l0 <|
  (D_X11_error N q1.2 l0 q1.1).bind fun q2 =>
  some (q2.1, q2.2))
set_option maxHeartbeats 4000000 in
set_option maxRecDepth 100000 in
theorem T_X11_never {P : mh_E → Prop} {N d : Nat} (hd : 4 ≤ d) {z : (Int32 × mh_H)} {h : mh_H} {l0 : Nat} {l1 : Int32} {l2 : Int32} (hq : D_X11_never N h l0 l1 l2 = some z) : mh_go P d mX11_never 0 [some (.ref l0), some (.int l1), some (.int l2), none] [] h (some (.int z.1)) z.2 := by
  unfold D_X11_never at hq
  refine st_aload_n (pc := 0) dX11_never_0 rfl ?_
  refine st_iload_n (pc := 1) dX11_never_1 rfl ?_
  refine st_iload_n (pc := 2) dX11_never_2 rfl ?_
  obtain ⟨⟨hbq1, hkq1⟩, hq⟩ := mh_oi hq
  obtain ⟨q1, e1, hq⟩ := mh_ob hq
  refine st_invV (pc := 3) (ci := 11) (vs := [.int l1, .int l2]) (rest := []) (st2 := [.int q1.1]) dX11_never_3 okX11_pairError (by decide) hkq1 hbq1 wd_875 wd_877 wp_25 pdX11_pairError rfl rfl rfl rfl (Nat.le_trans (by decide) hd) (Nat.le_of_ble_eq_true rfl) (T_X11_pairError (Nat.le_refl _) e1) rfl ?_
  refine st_istore_n (pc := 6) (lv' := [some (.ref l0), some (.int l1), some (.int l2), some (.int q1.1)]) dX11_never_6 rfl (by decide) rfl ?_
  refine st_iload_n (pc := 7) dX11_never_7 rfl ?_
  refine bd_if_eq (pc := 8) (tgt := 19) hq dX11_never_8 (by decide) (fun _ hq => ?_) (fun _ hq => ?_)
  ·
    refine st_aload_n (pc := 19) dX11_never_19 rfl ?_
    refine bd_getr (pc := 20) hq dX11_never_20 fl_11_12_11 rfl (fun v2 hq => ?_)
    refine bd_getr (pc := 23) hq dX11_never_23 fl_11_196_10 rfl (fun v3 hq => ?_)
    refine st_iload_n (pc := 26) dX11_never_26 rfl ?_
    refine st_iload_n (pc := 27) dX11_never_27 rfl ?_
    obtain ⟨⟨hbq4, hkq4⟩, hq⟩ := mh_oi hq
    obtain ⟨q4, e4, hq⟩ := mh_ob hq
    refine st_invV (pc := 28) (ci := 1) (vs := [.int l1, .int l2]) (rest := []) (st2 := [.int q4.1]) dX11_never_28 okX1_inVain (by decide) hkq4 hbq4 wd_901 wd_902 wd_903 pdX1_inVain rfl rfl rfl rfl (Nat.le_trans (by decide) hd) (Nat.le_of_ble_eq_true rfl) (T_X1_inVain (Nat.le_refl _) e4) rfl ?_
    exact bd_iret (pc := 31) hq dX11_never_31 rfl
  ·
    refine st_aload_n (pc := 11) dX11_never_11 rfl ?_
    refine st_iload_n (pc := 12) dX11_never_12 rfl ?_
    obtain ⟨⟨hbq2, hkq2⟩, hq⟩ := mh_oi hq
    obtain ⟨q2, e2, hq⟩ := mh_ob hq
    refine st_invV (pc := 13) (ci := 11) (vs := [.int q1.1]) (rest := []) (st2 := [.int q2.1]) dX11_never_13 okX11_error (by decide) hkq2 hbq2 wd_326 wd_328 wp_0 pdX11_error rfl rfl rfl rfl (Nat.le_trans (by decide) hd) (Nat.le_of_ble_eq_true rfl) (T_X11_error (Nat.le_refl _) e2) rfl ?_
    refine st_goto (pc := 16) (tgt := 31) dX11_never_16 (by decide) ?_
    exact bd_iret (pc := 31) hq dX11_never_31 rfl
-- HoleWater$Looks.firstSaw(II)I
theorem dX1_firstSaw_40 : decode cX1_firstSaw 40 = .ok (.iinc 3 1, 3) := by decide +kernel
theorem dX1_firstSaw_43 : decode cX1_firstSaw 43 = .ok (.goto (-41), 3) := by decide +kernel
theorem dX1_firstSaw_2 : decode cX1_firstSaw 2 = .ok (.iload_n 3, 1) := by decide +kernel
theorem dX1_firstSaw_3 : decode cX1_firstSaw 3 = .ok (.aload_n 0, 1) := by decide +kernel
theorem dX1_firstSaw_4 : decode cX1_firstSaw 4 = .ok (.getfield 15, 3) := by decide +kernel
theorem dX1_firstSaw_7 : decode cX1_firstSaw 7 = .ok (.if_icmp .ge 39, 3) := by decide +kernel
theorem dX1_firstSaw_46 : decode cX1_firstSaw 46 = .ok (.iconst (-1), 1) := by decide +kernel
theorem dX1_firstSaw_47 : decode cX1_firstSaw 47 = .ok (.ireturn, 1) := by decide +kernel
theorem dX1_firstSaw_10 : decode cX1_firstSaw 10 = .ok (.aload_n 0, 1) := by decide +kernel
theorem dX1_firstSaw_11 : decode cX1_firstSaw 11 = .ok (.iload_n 3, 1) := by decide +kernel
theorem dX1_firstSaw_12 : decode cX1_firstSaw 12 = .ok (.iconst 0, 1) := by decide +kernel
theorem dX1_firstSaw_13 : decode cX1_firstSaw 13 = .ok (.invokevirtual 60, 3) := by decide +kernel
theorem dX1_firstSaw_16 : decode cX1_firstSaw 16 = .ok (.iload_n 1, 1) := by decide +kernel
theorem dX1_firstSaw_17 : decode cX1_firstSaw 17 = .ok (.if_icmp .ne 23, 3) := by decide +kernel
theorem dX1_firstSaw_20 : decode cX1_firstSaw 20 = .ok (.aload_n 0, 1) := by decide +kernel
theorem dX1_firstSaw_21 : decode cX1_firstSaw 21 = .ok (.iload_n 3, 1) := by decide +kernel
theorem dX1_firstSaw_22 : decode cX1_firstSaw 22 = .ok (.iconst 1, 1) := by decide +kernel
theorem dX1_firstSaw_23 : decode cX1_firstSaw 23 = .ok (.invokevirtual 60, 3) := by decide +kernel
theorem dX1_firstSaw_26 : decode cX1_firstSaw 26 = .ok (.iload_n 2, 1) := by decide +kernel
theorem dX1_firstSaw_27 : decode cX1_firstSaw 27 = .ok (.if_icmp .ne 13, 3) := by decide +kernel
theorem dX1_firstSaw_30 : decode cX1_firstSaw 30 = .ok (.aload_n 0, 1) := by decide +kernel
theorem dX1_firstSaw_31 : decode cX1_firstSaw 31 = .ok (.iload_n 3, 1) := by decide +kernel
theorem dX1_firstSaw_32 : decode cX1_firstSaw 32 = .ok (.invokevirtual 70, 3) := by decide +kernel
theorem dX1_firstSaw_35 : decode cX1_firstSaw 35 = .ok (.ifCond .eq 5, 3) := by decide +kernel
theorem dX1_firstSaw_38 : decode cX1_firstSaw 38 = .ok (.iload_n 3, 1) := by decide +kernel
theorem dX1_firstSaw_39 : decode cX1_firstSaw 39 = .ok (.ireturn, 1) := by decide +kernel
theorem dX1_firstSaw_0 : decode cX1_firstSaw 0 = .ok (.iconst 0, 1) := by decide +kernel
theorem dX1_firstSaw_1 : decode cX1_firstSaw 1 = .ok (.istore_n 3, 1) := by decide +kernel
def D_X1_firstSaw_40 (N : Nat) (k2 : mh_H → Nat → Int32 → Int32 → Int32 → Option (Int32 × mh_H)) (h : mh_H) (l0 : Nat) (l1 : Int32) (l2 : Int32) (l3 : Int32) : Option (Int32 × mh_H) :=
  k2 h l0 l1 l2 (l3 + Int32.ofInt (1))
set_option maxHeartbeats 4000000 in
set_option maxRecDepth 100000 in
theorem T_X1_firstSaw_40 {P : mh_E → Prop} {N d : Nat} (hd : 3 ≤ d) {z : (Int32 × mh_H)} {k2 : mh_H → Nat → Int32 → Int32 → Int32 → Option (Int32 × mh_H)} (hk2 : ∀ (h : mh_H) (l0 : Nat) (l1 : Int32) (l2 : Int32) (l3 : Int32), k2 h l0 l1 l2 l3 = some z → mh_go P d mX1_firstSaw 2 [some (.ref l0), some (.int l1), some (.int l2), some (.int l3)] [] h (some (.int z.1)) z.2) {h : mh_H} {l0 : Nat} {l1 : Int32} {l2 : Int32} {l3 : Int32} (hq : D_X1_firstSaw_40 N k2 h l0 l1 l2 l3 = some z) : mh_go P d mX1_firstSaw 40 [some (.ref l0), some (.int l1), some (.int l2), some (.int l3)] [] h (some (.int z.1)) z.2 := by
  unfold D_X1_firstSaw_40 at hq
  refine st_iinc (pc := 40) (lv' := [some (.ref l0), some (.int l1), some (.int l2), some (.int (l3 + Int32.ofInt (1)))]) dX1_firstSaw_40 rfl rfl (by decide) rfl ?_
  refine st_goto (pc := 43) (tgt := 2) dX1_firstSaw_43 (by decide) ?_
  exact hk2 _ _ _ _ _ hq
def D_X1_firstSaw_2 (N : Nat) : Nat → mh_H → Nat → Int32 → Int32 → Int32 → Option (Int32 × mh_H)
  | 0, _, _, _, _, _ => none
  | F + 1, h, l0, l1, l2, l3 =>
    (gI h 1 l0 1).bind fun v1 =>
    if v1 ≤ l3 then (some ((-1 : Int32), h))
    else (kO h 1 l0 <|
    (D_X1_lookPart N h l0 l3 (0 : Int32)).bind fun q2 =>
    if q2.1 = l1 then (kO q2.2 1 l0 <|
    (D_X1_lookPart N q2.2 l0 l3 (1 : Int32)).bind fun q3 =>
    if q3.1 = l2 then (kO q3.2 1 l0 <|
    (D_X1_saw N q3.2 l0 l3).bind fun q4 =>
    if q4.1 = 0 then (D_X1_firstSaw_40 N (D_X1_firstSaw_2 N F) q4.2 l0 l1 l2 l3)
    else (some (l3, q4.2)))
    else (D_X1_firstSaw_40 N (D_X1_firstSaw_2 N F) q3.2 l0 l1 l2 l3))
    else (D_X1_firstSaw_40 N (D_X1_firstSaw_2 N F) q2.2 l0 l1 l2 l3))
set_option maxHeartbeats 4000000 in
set_option maxRecDepth 100000 in
theorem T_X1_firstSaw_2 {P : mh_E → Prop} {N d : Nat} (hd : 3 ≤ d) {z : (Int32 × mh_H)} : ∀ (F : Nat) (h : mh_H) (l0 : Nat) (l1 : Int32) (l2 : Int32) (l3 : Int32), D_X1_firstSaw_2 N F h l0 l1 l2 l3 = some z → mh_go P d mX1_firstSaw 2 [some (.ref l0), some (.int l1), some (.int l2), some (.int l3)] [] h (some (.int z.1)) z.2 := by
  intro F
  induction F with
  | zero => intro h l0 l1 l2 l3 hq; rw [D_X1_firstSaw_2] at hq; cases hq
  | succ F ih =>
    intro h l0 l1 l2 l3 hq
    rw [D_X1_firstSaw_2] at hq
    refine st_iload_n (pc := 2) dX1_firstSaw_2 rfl ?_
    refine st_aload_n (pc := 3) dX1_firstSaw_3 rfl ?_
    refine bd_geti (pc := 4) hq dX1_firstSaw_4 fl_1_15_1 rfl (fun v1 hq => ?_)
    refine bd_icmp_ge (pc := 7) (tgt := 46) hq dX1_firstSaw_7 (by decide) (fun _ hq => ?_) (fun _ hq => ?_)
    ·
      refine st_iconst (pc := 46) (v := (-1 : Int32)) dX1_firstSaw_46 rfl ?_
      exact bd_iret (pc := 47) hq dX1_firstSaw_47 rfl
    ·
      refine st_aload_n (pc := 10) dX1_firstSaw_10 rfl ?_
      refine st_iload_n (pc := 11) dX1_firstSaw_11 rfl ?_
      refine st_iconst (pc := 12) (v := (0 : Int32)) dX1_firstSaw_12 rfl ?_
      obtain ⟨⟨hbq2, hkq2⟩, hq⟩ := mh_oi hq
      obtain ⟨q2, e2, hq⟩ := mh_ob hq
      refine st_invV (pc := 13) (ci := 1) (vs := [.int l3, .int (0 : Int32)]) (rest := []) (st2 := [.int q2.1]) dX1_firstSaw_13 okX1_lookPart (by decide) hkq2 hbq2 wd_883 wd_884 wd_885 pdX1_lookPart rfl rfl rfl rfl (Nat.le_trans (by decide) hd) (Nat.le_of_ble_eq_true rfl) (T_X1_lookPart (Nat.le_refl _) e2) rfl ?_
      refine st_iload_n (pc := 16) dX1_firstSaw_16 rfl ?_
      refine bd_icmp_ne (pc := 17) (tgt := 40) hq dX1_firstSaw_17 (by decide) (fun _ hq => ?_) (fun _ hq => ?_)
      ·
        refine st_aload_n (pc := 20) dX1_firstSaw_20 rfl ?_
        refine st_iload_n (pc := 21) dX1_firstSaw_21 rfl ?_
        refine st_iconst (pc := 22) (v := (1 : Int32)) dX1_firstSaw_22 rfl ?_
        obtain ⟨⟨hbq3, hkq3⟩, hq⟩ := mh_oi hq
        obtain ⟨q3, e3, hq⟩ := mh_ob hq
        refine st_invV (pc := 23) (ci := 1) (vs := [.int l3, .int (1 : Int32)]) (rest := []) (st2 := [.int q3.1]) dX1_firstSaw_23 okX1_lookPart (by decide) hkq3 hbq3 wd_883 wd_884 wd_885 pdX1_lookPart rfl rfl rfl rfl (Nat.le_trans (by decide) hd) (Nat.le_of_ble_eq_true rfl) (T_X1_lookPart (Nat.le_refl _) e3) rfl ?_
        refine st_iload_n (pc := 26) dX1_firstSaw_26 rfl ?_
        refine bd_icmp_ne (pc := 27) (tgt := 40) hq dX1_firstSaw_27 (by decide) (fun _ hq => ?_) (fun _ hq => ?_)
        ·
          refine st_aload_n (pc := 30) dX1_firstSaw_30 rfl ?_
          refine st_iload_n (pc := 31) dX1_firstSaw_31 rfl ?_
          obtain ⟨⟨hbq4, hkq4⟩, hq⟩ := mh_oi hq
          obtain ⟨q4, e4, hq⟩ := mh_ob hq
          refine st_invV (pc := 32) (ci := 1) (vs := [.int l3]) (rest := []) (st2 := [.int q4.1]) dX1_firstSaw_32 okX1_saw (by decide) hkq4 hbq4 wd_892 wd_894 wp_27 pdX1_saw rfl rfl rfl rfl (Nat.le_trans (by decide) hd) (Nat.le_of_ble_eq_true rfl) (T_X1_saw (Nat.le_refl _) e4) rfl ?_
          refine bd_if_eq (pc := 35) (tgt := 40) hq dX1_firstSaw_35 (by decide) (fun _ hq => ?_) (fun _ hq => ?_)
          ·
            exact T_X1_firstSaw_40 hd ih hq
          ·
            refine st_iload_n (pc := 38) dX1_firstSaw_38 rfl ?_
            exact bd_iret (pc := 39) hq dX1_firstSaw_39 rfl
        ·
          exact T_X1_firstSaw_40 hd ih hq
      ·
        exact T_X1_firstSaw_40 hd ih hq
def D_X1_firstSaw (N : Nat) (h : mh_H) (l0 : Nat) (l1 : Int32) (l2 : Int32) : Option (Int32 × mh_H) :=
  D_X1_firstSaw_2 N N h l0 l1 l2 (0 : Int32)
set_option maxHeartbeats 4000000 in
set_option maxRecDepth 100000 in
theorem T_X1_firstSaw {P : mh_E → Prop} {N d : Nat} (hd : 3 ≤ d) {z : (Int32 × mh_H)} {h : mh_H} {l0 : Nat} {l1 : Int32} {l2 : Int32} (hq : D_X1_firstSaw N h l0 l1 l2 = some z) : mh_go P d mX1_firstSaw 0 [some (.ref l0), some (.int l1), some (.int l2), none] [] h (some (.int z.1)) z.2 := by
  unfold D_X1_firstSaw at hq
  refine st_iconst (pc := 0) (v := (0 : Int32)) dX1_firstSaw_0 rfl ?_
  refine st_istore_n (pc := 1) (lv' := [some (.ref l0), some (.int l1), some (.int l2), some (.int (0 : Int32))]) dX1_firstSaw_1 rfl (by decide) rfl ?_
  exact T_X1_firstSaw_2 hd N _ _ _ _ _ hq
