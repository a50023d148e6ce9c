-- HoleWaterModel.said(III)I
theorem dX12_said_118 : decode cX12_said 118 = .ok (.istore 4, 2) := by decide +kernel
theorem dX12_said_120 : decode cX12_said 120 = .ok (.iinc 5 1, 3) := by decide +kernel
theorem dX12_said_123 : decode cX12_said 123 = .ok (.goto (-117), 3) := by decide +kernel
theorem dX12_said_102 : decode cX12_said 102 = .ok (.istore 7, 2) := by decide +kernel
theorem dX12_said_104 : decode cX12_said 104 = .ok (.iload 7, 2) := by decide +kernel
theorem dX12_said_106 : decode cX12_said 106 = .ok (.iload 4, 2) := by decide +kernel
theorem dX12_said_108 : decode cX12_said 108 = .ok (.if_icmp .le 8, 3) := by decide +kernel
theorem dX12_said_116 : decode cX12_said 116 = .ok (.iload 4, 2) := by decide +kernel
theorem dX12_said_111 : decode cX12_said 111 = .ok (.iload 7, 2) := by decide +kernel
theorem dX12_said_113 : decode cX12_said 113 = .ok (.goto 5, 3) := by decide +kernel
theorem dX12_said_61 : decode cX12_said 61 = .ok (.istore 6, 2) := by decide +kernel
theorem dX12_said_63 : decode cX12_said 63 = .ok (.iload 6, 2) := by decide +kernel
theorem dX12_said_65 : decode cX12_said 65 = .ok (.ifCond .ne 7, 3) := by decide +kernel
theorem dX12_said_68 : decode cX12_said 68 = .ok (.iconst 0, 1) := by decide +kernel
theorem dX12_said_69 : decode cX12_said 69 = .ok (.goto 33, 3) := by decide +kernel
theorem dX12_said_72 : decode cX12_said 72 = .ok (.aload_n 0, 1) := by decide +kernel
theorem dX12_said_73 : decode cX12_said 73 = .ok (.iload 5, 2) := by decide +kernel
theorem dX12_said_75 : decode cX12_said 75 = .ok (.iconst 4, 1) := by decide +kernel
theorem dX12_said_76 : decode cX12_said 76 = .ok (.invokevirtual 269, 3) := by decide +kernel
theorem dX12_said_79 : decode cX12_said 79 = .ok (.ifCond .ne 7, 3) := by decide +kernel
theorem dX12_said_82 : decode cX12_said 82 = .ok (.iconst 1, 1) := by decide +kernel
theorem dX12_said_83 : decode cX12_said 83 = .ok (.goto 19, 3) := by decide +kernel
theorem dX12_said_86 : decode cX12_said 86 = .ok (.aload_n 0, 1) := by decide +kernel
theorem dX12_said_87 : decode cX12_said 87 = .ok (.iload 5, 2) := by decide +kernel
theorem dX12_said_89 : decode cX12_said 89 = .ok (.iload_n 1, 1) := by decide +kernel
theorem dX12_said_90 : decode cX12_said 90 = .ok (.iconst 1, 1) := by decide +kernel
theorem dX12_said_91 : decode cX12_said 91 = .ok (.invokevirtual 272, 3) := by decide +kernel
theorem dX12_said_94 : decode cX12_said 94 = .ok (.ifCond .eq 7, 3) := by decide +kernel
theorem dX12_said_101 : decode cX12_said 101 = .ok (.iconst 3, 1) := by decide +kernel
theorem dX12_said_97 : decode cX12_said 97 = .ok (.iconst 2, 1) := by decide +kernel
theorem dX12_said_98 : decode cX12_said 98 = .ok (.goto 4, 3) := by decide +kernel
theorem dX12_said_60 : decode cX12_said 60 = .ok (.iconst 0, 1) := by decide +kernel
theorem dX12_said_45 : decode cX12_said 45 = .ok (.aload_n 0, 1) := by decide +kernel
theorem dX12_said_46 : decode cX12_said 46 = .ok (.iload 5, 2) := by decide +kernel
theorem dX12_said_48 : decode cX12_said 48 = .ok (.iload_n 1, 1) := by decide +kernel
theorem dX12_said_49 : decode cX12_said 49 = .ok (.iconst 0, 1) := by decide +kernel
theorem dX12_said_50 : decode cX12_said 50 = .ok (.invokevirtual 272, 3) := by decide +kernel
theorem dX12_said_53 : decode cX12_said 53 = .ok (.ifCond .eq 7, 3) := by decide +kernel
theorem dX12_said_56 : decode cX12_said 56 = .ok (.iconst 1, 1) := by decide +kernel
theorem dX12_said_57 : decode cX12_said 57 = .ok (.goto 4, 3) := by decide +kernel
theorem dX12_said_6 : decode cX12_said 6 = .ok (.iload 5, 2) := by decide +kernel
theorem dX12_said_8 : decode cX12_said 8 = .ok (.aload_n 0, 1) := by decide +kernel
theorem dX12_said_9 : decode cX12_said 9 = .ok (.getfield 9, 3) := by decide +kernel
theorem dX12_said_12 : decode cX12_said 12 = .ok (.iconst 4, 1) := by decide +kernel
theorem dX12_said_13 : decode cX12_said 13 = .ok (.iaload, 1) := by decide +kernel
theorem dX12_said_14 : decode cX12_said 14 = .ok (.if_icmp .ge 112, 3) := by decide +kernel
theorem dX12_said_126 : decode cX12_said 126 = .ok (.iload 4, 2) := by decide +kernel
theorem dX12_said_128 : decode cX12_said 128 = .ok (.ireturn, 1) := by decide +kernel
theorem dX12_said_17 : decode cX12_said 17 = .ok (.aload_n 0, 1) := by decide +kernel
theorem dX12_said_18 : decode cX12_said 18 = .ok (.iload 5, 2) := by decide +kernel
theorem dX12_said_20 : decode cX12_said 20 = .ok (.iconst 0, 1) := by decide +kernel
theorem dX12_said_21 : decode cX12_said 21 = .ok (.invokevirtual 269, 3) := by decide +kernel
theorem dX12_said_24 : decode cX12_said 24 = .ok (.iload_n 2, 1) := by decide +kernel
theorem dX12_said_25 : decode cX12_said 25 = .ok (.if_icmp .ne 35, 3) := by decide +kernel
theorem dX12_said_28 : decode cX12_said 28 = .ok (.iload_n 3, 1) := by decide +kernel
theorem dX12_said_29 : decode cX12_said 29 = .ok (.ifCond .eq 16, 3) := by decide +kernel
theorem dX12_said_32 : decode cX12_said 32 = .ok (.aload_n 0, 1) := by decide +kernel
theorem dX12_said_33 : decode cX12_said 33 = .ok (.iload 5, 2) := by decide +kernel
theorem dX12_said_35 : decode cX12_said 35 = .ok (.iconst 5, 1) := by decide +kernel
theorem dX12_said_36 : decode cX12_said 36 = .ok (.invokevirtual 269, 3) := by decide +kernel
theorem dX12_said_39 : decode cX12_said 39 = .ok (.iload_n 3, 1) := by decide +kernel
theorem dX12_said_40 : decode cX12_said 40 = .ok (.iconst 1, 1) := by decide +kernel
theorem dX12_said_41 : decode cX12_said 41 = .ok (.isub, 1) := by decide +kernel
theorem dX12_said_42 : decode cX12_said 42 = .ok (.if_icmp .ne 18, 3) := by decide +kernel
theorem dX12_said_0 : decode cX12_said 0 = .ok (.iconst 0, 1) := by decide +kernel
theorem dX12_said_1 : decode cX12_said 1 = .ok (.istore 4, 2) := by decide +kernel
theorem dX12_said_3 : decode cX12_said 3 = .ok (.iconst 0, 1) := by decide +kernel
theorem dX12_said_4 : decode cX12_said 4 = .ok (.istore 5, 2) := by decide +kernel
def D_X12_said_118 (N : Nat) (k6 : mh_H → Nat → Int32 → Int32 → Int32 → Int32 → Int32 → Option (Int32 × mh_H)) (h : mh_H) (l0 : Nat) (l1 : Int32) (l2 : Int32) (l3 : Int32) (l5 : Int32) (s0 : Int32) : Option (Int32 × mh_H) :=
  k6 h l0 l1 l2 l3 s0 (l5 + Int32.ofInt (1))
set_option maxHeartbeats 4000000 in
set_option maxRecDepth 100000 in
theorem T_X12_said_118 {P : mh_E → Prop} {N d : Nat} (hd : 3 ≤ d) {z : (Int32 × mh_H)} {k6 : mh_H → Nat → Int32 → Int32 → Int32 → Int32 → Int32 → Option (Int32 × mh_H)} (hk6 : ∀ (h : mh_H) (l0 : Nat) (l1 : Int32) (l2 : Int32) (l3 : Int32) (l4 : Int32) (l5 : Int32), k6 h l0 l1 l2 l3 l4 l5 = some z → mh_go P d mX12_said 6 [some (.ref l0), some (.int l1), some (.int l2), some (.int l3), some (.int l4), some (.int l5), none, none] [] h (some (.int z.1)) z.2) {h : mh_H} {l0 : Nat} {l1 : Int32} {l2 : Int32} {l3 : Int32} {l5 : Int32} {s0 : Int32} (hq : D_X12_said_118 N k6 h l0 l1 l2 l3 l5 s0 = some z) : mh_go P d mX12_said 118 [some (.ref l0), some (.int l1), some (.int l2), some (.int l3), none, some (.int l5), none, none] [.int s0] h (some (.int z.1)) z.2 := by
  unfold D_X12_said_118 at hq
  refine st_istore (pc := 118) (lv' := [some (.ref l0), some (.int l1), some (.int l2), some (.int l3), some (.int s0), some (.int l5), none, none]) dX12_said_118 rfl (by decide) rfl ?_
  refine st_iinc (pc := 120) (lv' := [some (.ref l0), some (.int l1), some (.int l2), some (.int l3), some (.int s0), some (.int (l5 + Int32.ofInt (1))), none, none]) dX12_said_120 rfl rfl (by decide) rfl ?_
  refine st_goto (pc := 123) (tgt := 6) dX12_said_123 (by decide) ?_
  exact hk6 _ _ _ _ _ _ _ hq
def D_X12_said_102 (N : Nat) (k6 : mh_H → Nat → Int32 → Int32 → Int32 → Int32 → Int32 → Option (Int32 × mh_H)) (h : mh_H) (l0 : Nat) (l1 : Int32) (l2 : Int32) (l3 : Int32) (l4 : Int32) (l5 : Int32) (s0 : Int32) : Option (Int32 × mh_H) :=
  if s0 ≤ l4 then (D_X12_said_118 N k6 h l0 l1 l2 l3 l5 l4)
  else (D_X12_said_118 N k6 h l0 l1 l2 l3 l5 s0)
set_option maxHeartbeats 4000000 in
set_option maxRecDepth 100000 in
theorem T_X12_said_102 {P : mh_E → Prop} {N d : Nat} (hd : 3 ≤ d) {z : (Int32 × mh_H)} {k6 : mh_H → Nat → Int32 → Int32 → Int32 → Int32 → Int32 → Option (Int32 × mh_H)} (hk6 : ∀ (h : mh_H) (l0 : Nat) (l1 : Int32) (l2 : Int32) (l3 : Int32) (l4 : Int32) (l5 : Int32), k6 h l0 l1 l2 l3 l4 l5 = some z → mh_go P d mX12_said 6 [some (.ref l0), some (.int l1), some (.int l2), some (.int l3), some (.int l4), some (.int l5), none, none] [] h (some (.int z.1)) z.2) {h : mh_H} {l0 : Nat} {l1 : Int32} {l2 : Int32} {l3 : Int32} {l4 : Int32} {l5 : Int32} {s0 : Int32} (hq : D_X12_said_102 N k6 h l0 l1 l2 l3 l4 l5 s0 = some z) : mh_go P d mX12_said 102 [some (.ref l0), some (.int l1), some (.int l2), some (.int l3), some (.int l4), some (.int l5), none, none] [.int s0] h (some (.int z.1)) z.2 := by
  unfold D_X12_said_102 at hq
  refine st_istore (pc := 102) (lv' := [some (.ref l0), some (.int l1), some (.int l2), some (.int l3), some (.int l4), some (.int l5), none, some (.int s0)]) dX12_said_102 rfl (by decide) rfl ?_
  refine st_iload (pc := 104) dX12_said_104 rfl ?_
  refine st_iload (pc := 106) dX12_said_106 rfl ?_
  refine bd_icmp_le (pc := 108) (tgt := 116) hq dX12_said_108 (by decide) (fun _ hq => ?_) (fun _ hq => ?_)
  ·
    refine st_iload (pc := 116) dX12_said_116 rfl ?_
    refine st_lesS (lv' := [some (.ref l0), some (.int l1), some (.int l2), some (.int l3), none, some (.int l5), none, none]) ⟨Or.inr rfl, Or.inr rfl, Or.inr rfl, Or.inr rfl, Or.inl rfl, Or.inr rfl, Or.inr rfl, Or.inl rfl, trivial⟩ ?_
    exact T_X12_said_118 hd hk6 hq
  ·
    refine st_iload (pc := 111) dX12_said_111 rfl ?_
    refine st_goto (pc := 113) (tgt := 118) dX12_said_113 (by decide) ?_
    refine st_lesS (lv' := [some (.ref l0), some (.int l1), some (.int l2), some (.int l3), none, some (.int l5), none, none]) ⟨Or.inr rfl, Or.inr rfl, Or.inr rfl, Or.inr rfl, Or.inl rfl, Or.inr rfl, Or.inr rfl, Or.inl rfl, trivial⟩ ?_
    exact T_X12_said_118 hd hk6 hq
def D_X12_said_61 (N : Nat) (k6 : mh_H → Nat → Int32 → Int32 → Int32 → Int32 → Int32 → Option (Int32 × mh_H)) (h : mh_H) (l0 : Nat) (l1 : Int32) (l2 : Int32) (l3 : Int32) (l4 : Int32) (l5 : Int32) (s0 : Int32) : Option (Int32 × mh_H) :=
  if s0 = 0 then (D_X12_said_102 N k6 h l0 l1 l2 l3 l4 l5 (0 : Int32))
  else (kO h 12 l0 <|
  (D_X12_look N h l0 l5 (4 : Int32)).bind fun q1 =>
  if q1.1 = 0 then (D_X12_said_102 N k6 q1.2 l0 l1 l2 l3 l4 l5 (1 : Int32))
  else (kO q1.2 12 l0 <|
  (D_X12_wasPut N q1.2 l0 l5 l1 (1 : Int32)).bind fun q2 =>
  if q2.1 = 0 then (D_X12_said_102 N k6 q2.2 l0 l1 l2 l3 l4 l5 (3 : Int32))
  else (D_X12_said_102 N k6 q2.2 l0 l1 l2 l3 l4 l5 (2 : Int32))))
set_option maxHeartbeats 4000000 in
set_option maxRecDepth 100000 in
theorem T_X12_said_61 {P : mh_E → Prop} {N d : Nat} (hd : 3 ≤ d) {z : (Int32 × mh_H)} {k6 : mh_H → Nat → Int32 → Int32 → Int32 → Int32 → Int32 → Option (Int32 × mh_H)} (hk6 : ∀ (h : mh_H) (l0 : Nat) (l1 : Int32) (l2 : Int32) (l3 : Int32) (l4 : Int32) (l5 : Int32), k6 h l0 l1 l2 l3 l4 l5 = some z → mh_go P d mX12_said 6 [some (.ref l0), some (.int l1), some (.int l2), some (.int l3), some (.int l4), some (.int l5), none, none] [] h (some (.int z.1)) z.2) {h : mh_H} {l0 : Nat} {l1 : Int32} {l2 : Int32} {l3 : Int32} {l4 : Int32} {l5 : Int32} {s0 : Int32} (hq : D_X12_said_61 N k6 h l0 l1 l2 l3 l4 l5 s0 = some z) : mh_go P d mX12_said 61 [some (.ref l0), some (.int l1), some (.int l2), some (.int l3), some (.int l4), some (.int l5), none, none] [.int s0] h (some (.int z.1)) z.2 := by
  unfold D_X12_said_61 at hq
  refine st_istore (pc := 61) (lv' := [some (.ref l0), some (.int l1), some (.int l2), some (.int l3), some (.int l4), some (.int l5), some (.int s0), none]) dX12_said_61 rfl (by decide) rfl ?_
  refine st_iload (pc := 63) dX12_said_63 rfl ?_
  refine bd_if_ne (pc := 65) (tgt := 72) hq dX12_said_65 (by decide) (fun _ hq => ?_) (fun _ hq => ?_)
  ·
    refine st_iconst (pc := 68) (v := (0 : Int32)) dX12_said_68 rfl ?_
    refine st_goto (pc := 69) (tgt := 102) dX12_said_69 (by decide) ?_
    refine st_lesS (lv' := [some (.ref l0), some (.int l1), some (.int l2), some (.int l3), some (.int l4), some (.int l5), none, none]) ⟨Or.inr rfl, Or.inr rfl, Or.inr rfl, Or.inr rfl, Or.inr rfl, Or.inr rfl, Or.inl rfl, Or.inr rfl, trivial⟩ ?_
    exact T_X12_said_102 hd hk6 hq
  ·
    refine st_aload_n (pc := 72) dX12_said_72 rfl ?_
    refine st_iload (pc := 73) dX12_said_73 rfl ?_
    refine st_iconst (pc := 75) (v := (4 : Int32)) dX12_said_75 rfl ?_
    obtain ⟨⟨hbq1, hkq1⟩, hq⟩ := mh_oi hq
    obtain ⟨q1, e1, hq⟩ := mh_ob hq
    refine st_invV (pc := 76) (ci := 12) (vs := [.int l5, .int (4 : Int32)]) (rest := []) (st2 := [.int q1.1]) dX12_said_76 okX12_look (by decide) hkq1 hbq1 wd_1564 wd_1566 wp_75 pdX12_look rfl rfl rfl rfl (Nat.le_trans (by decide) hd) (Nat.le_of_ble_eq_true rfl) (T_X12_look (Nat.le_refl _) e1) rfl ?_
    refine bd_if_ne (pc := 79) (tgt := 86) hq dX12_said_79 (by decide) (fun _ hq => ?_) (fun _ hq => ?_)
    ·
      refine st_iconst (pc := 82) (v := (1 : Int32)) dX12_said_82 rfl ?_
      refine st_goto (pc := 83) (tgt := 102) dX12_said_83 (by decide) ?_
      refine st_lesS (lv' := [some (.ref l0), some (.int l1), some (.int l2), some (.int l3), some (.int l4), some (.int l5), none, none]) ⟨Or.inr rfl, Or.inr rfl, Or.inr rfl, Or.inr rfl, Or.inr rfl, Or.inr rfl, Or.inl rfl, Or.inr rfl, trivial⟩ ?_
      exact T_X12_said_102 hd hk6 hq
    ·
      refine st_aload_n (pc := 86) dX12_said_86 rfl ?_
      refine st_iload (pc := 87) dX12_said_87 rfl ?_
      refine st_iload_n (pc := 89) dX12_said_89 rfl ?_
      refine st_iconst (pc := 90) (v := (1 : Int32)) dX12_said_90 rfl ?_
      obtain ⟨⟨hbq2, hkq2⟩, hq⟩ := mh_oi hq
      obtain ⟨q2, e2, hq⟩ := mh_ob hq
      refine st_invV (pc := 91) (ci := 12) (vs := [.int l5, .int l1, .int (1 : Int32)]) (rest := []) (st2 := [.int q2.1]) dX12_said_91 okX12_wasPut (by decide) hkq2 hbq2 wd_1581 wd_1583 wp_78 pdX12_wasPut rfl rfl rfl rfl (Nat.le_trans (by decide) hd) (Nat.le_of_ble_eq_true rfl) (T_X12_wasPut (Nat.le_refl _) e2) rfl ?_
      refine bd_if_eq (pc := 94) (tgt := 101) hq dX12_said_94 (by decide) (fun _ hq => ?_) (fun _ hq => ?_)
      ·
        refine st_iconst (pc := 101) (v := (3 : Int32)) dX12_said_101 rfl ?_
        refine st_lesS (lv' := [some (.ref l0), some (.int l1), some (.int l2), some (.int l3), some (.int l4), some (.int l5), none, none]) ⟨Or.inr rfl, Or.inr rfl, Or.inr rfl, Or.inr rfl, Or.inr rfl, Or.inr rfl, Or.inl rfl, Or.inr rfl, trivial⟩ ?_
        exact T_X12_said_102 hd hk6 hq
      ·
        refine st_iconst (pc := 97) (v := (2 : Int32)) dX12_said_97 rfl ?_
        refine st_goto (pc := 98) (tgt := 102) dX12_said_98 (by decide) ?_
        refine st_lesS (lv' := [some (.ref l0), some (.int l1), some (.int l2), some (.int l3), some (.int l4), some (.int l5), none, none]) ⟨Or.inr rfl, Or.inr rfl, Or.inr rfl, Or.inr rfl, Or.inr rfl, Or.inr rfl, Or.inl rfl, Or.inr rfl, trivial⟩ ?_
        exact T_X12_said_102 hd hk6 hq
def D_X12_said_60 (N : Nat) (k6 : mh_H → Nat → Int32 → Int32 → Int32 → Int32 → Int32 → Option (Int32 × mh_H)) (h : mh_H) (l0 : Nat) (l1 : Int32) (l2 : Int32) (l3 : Int32) (l4 : Int32) (l5 : Int32) : Option (Int32 × mh_H) :=
  D_X12_said_61 N k6 h l0 l1 l2 l3 l4 l5 (0 : Int32)
set_option maxHeartbeats 4000000 in
set_option maxRecDepth 100000 in
theorem T_X12_said_60 {P : mh_E → Prop} {N d : Nat} (hd : 3 ≤ d) {z : (Int32 × mh_H)} {k6 : mh_H → Nat → Int32 → Int32 → Int32 → Int32 → Int32 → Option (Int32 × mh_H)} (hk6 : ∀ (h : mh_H) (l0 : Nat) (l1 : Int32) (l2 : Int32) (l3 : Int32) (l4 : Int32) (l5 : Int32), k6 h l0 l1 l2 l3 l4 l5 = some z → mh_go P d mX12_said 6 [some (.ref l0), some (.int l1), some (.int l2), some (.int l3), some (.int l4), some (.int l5), none, none] [] h (some (.int z.1)) z.2) {h : mh_H} {l0 : Nat} {l1 : Int32} {l2 : Int32} {l3 : Int32} {l4 : Int32} {l5 : Int32} (hq : D_X12_said_60 N k6 h l0 l1 l2 l3 l4 l5 = some z) : mh_go P d mX12_said 60 [some (.ref l0), some (.int l1), some (.int l2), some (.int l3), some (.int l4), some (.int l5), none, none] [] h (some (.int z.1)) z.2 := by
  unfold D_X12_said_60 at hq
  refine st_iconst (pc := 60) (v := (0 : Int32)) dX12_said_60 rfl ?_
  exact T_X12_said_61 hd hk6 hq
def D_X12_said_45 (N : Nat) (k6 : mh_H → Nat → Int32 → Int32 → Int32 → Int32 → Int32 → Option (Int32 × mh_H)) (h : mh_H) (l0 : Nat) (l1 : Int32) (l2 : Int32) (l3 : Int32) (l4 : Int32) (l5 : Int32) : Option (Int32 × mh_H) :=
  kO h 12 l0 <|
  (D_X12_wasPut N h l0 l5 l1 (0 : Int32)).bind fun q1 =>
  if q1.1 = 0 then (D_X12_said_60 N k6 q1.2 l0 l1 l2 l3 l4 l5)
  else (D_X12_said_61 N k6 q1.2 l0 l1 l2 l3 l4 l5 (1 : Int32))
set_option maxHeartbeats 4000000 in
set_option maxRecDepth 100000 in
theorem T_X12_said_45 {P : mh_E → Prop} {N d : Nat} (hd : 3 ≤ d) {z : (Int32 × mh_H)} {k6 : mh_H → Nat → Int32 → Int32 → Int32 → Int32 → Int32 → Option (Int32 × mh_H)} (hk6 : ∀ (h : mh_H) (l0 : Nat) (l1 : Int32) (l2 : Int32) (l3 : Int32) (l4 : Int32) (l5 : Int32), k6 h l0 l1 l2 l3 l4 l5 = some z → mh_go P d mX12_said 6 [some (.ref l0), some (.int l1), some (.int l2), some (.int l3), some (.int l4), some (.int l5), none, none] [] h (some (.int z.1)) z.2) {h : mh_H} {l0 : Nat} {l1 : Int32} {l2 : Int32} {l3 : Int32} {l4 : Int32} {l5 : Int32} (hq : D_X12_said_45 N k6 h l0 l1 l2 l3 l4 l5 = some z) : mh_go P d mX12_said 45 [some (.ref l0), some (.int l1), some (.int l2), some (.int l3), some (.int l4), some (.int l5), none, none] [] h (some (.int z.1)) z.2 := by
  unfold D_X12_said_45 at hq
  refine st_aload_n (pc := 45) dX12_said_45 rfl ?_
  refine st_iload (pc := 46) dX12_said_46 rfl ?_
  refine st_iload_n (pc := 48) dX12_said_48 rfl ?_
  refine st_iconst (pc := 49) (v := (0 : Int32)) dX12_said_49 rfl ?_
  obtain ⟨⟨hbq1, hkq1⟩, hq⟩ := mh_oi hq
  obtain ⟨q1, e1, hq⟩ := mh_ob hq
  refine st_invV (pc := 50) (ci := 12) (vs := [.int l5, .int l1, .int (0 : Int32)]) (rest := []) (st2 := [.int q1.1]) dX12_said_50 okX12_wasPut (by decide) hkq1 hbq1 wd_1581 wd_1583 wp_78 pdX12_wasPut rfl rfl rfl rfl (Nat.le_trans (by decide) hd) (Nat.le_of_ble_eq_true rfl) (T_X12_wasPut (Nat.le_refl _) e1) rfl ?_
  refine bd_if_eq (pc := 53) (tgt := 60) hq dX12_said_53 (by decide) (fun _ hq => ?_) (fun _ hq => ?_)
  ·
    exact T_X12_said_60 hd hk6 hq
  ·
    refine st_iconst (pc := 56) (v := (1 : Int32)) dX12_said_56 rfl ?_
    refine st_goto (pc := 57) (tgt := 61) dX12_said_57 (by decide) ?_
    exact T_X12_said_61 hd hk6 hq
def D_X12_said_6 (N : Nat) : Nat → mh_H → Nat → Int32 → Int32 → Int32 → Int32 → Int32 → Option (Int32 × mh_H)
  | 0, _, _, _, _, _, _, _ => none
  | F + 1, h, l0, l1, l2, l3, l4, l5 =>
    (gR h 12 l0 0).bind fun v1 =>
    (aI h v1 (4 : Int32)).bind fun v2 =>
    if v2 ≤ l5 then (some (l4, h))
    else (kO h 12 l0 <|
    (D_X12_look N h l0 l5 (0 : Int32)).bind fun q3 =>
    if q3.1 = l2 then (if l3 = 0 then (D_X12_said_45 N (D_X12_said_6 N F) q3.2 l0 l1 l2 l3 l4 l5)
    else (kO q3.2 12 l0 <|
    (D_X12_look N q3.2 l0 l5 (5 : Int32)).bind fun q4 =>
    if q4.1 = (l3 - (1 : Int32)) then (D_X12_said_45 N (D_X12_said_6 N F) q4.2 l0 l1 l2 l3 l4 l5)
    else (D_X12_said_60 N (D_X12_said_6 N F) q4.2 l0 l1 l2 l3 l4 l5)))
    else (D_X12_said_60 N (D_X12_said_6 N F) q3.2 l0 l1 l2 l3 l4 l5))
set_option maxHeartbeats 4000000 in
set_option maxRecDepth 100000 in
theorem T_X12_said_6 {P : mh_E → Prop} {N d : Nat} (hd : 3 ≤ d) {z : (Int32 × mh_H)} : ∀ (F : Nat) (h : mh_H) (l0 : Nat) (l1 : Int32) (l2 : Int32) (l3 : Int32) (l4 : Int32) (l5 : Int32), D_X12_said_6 N F h l0 l1 l2 l3 l4 l5 = some z → mh_go P d mX12_said 6 [some (.ref l0), some (.int l1), some (.int l2), some (.int l3), some (.int l4), some (.int l5), none, none] [] h (some (.int z.1)) z.2 := by
  intro F
  induction F with
  | zero => intro h l0 l1 l2 l3 l4 l5 hq; rw [D_X12_said_6] at hq; cases hq
  | succ F ih =>
    intro h l0 l1 l2 l3 l4 l5 hq
    rw [D_X12_said_6] at hq
    refine st_iload (pc := 6) dX12_said_6 rfl ?_
    refine st_aload_n (pc := 8) dX12_said_8 rfl ?_
    refine bd_getr (pc := 9) hq dX12_said_9 fl_12_9_12 rfl (fun v1 hq => ?_)
    refine st_iconst (pc := 12) (v := (4 : Int32)) dX12_said_12 rfl ?_
    refine bd_iald (pc := 13) hq dX12_said_13 (fun v2 hq => ?_)
    refine bd_icmp_ge (pc := 14) (tgt := 126) hq dX12_said_14 (by decide) (fun _ hq => ?_) (fun _ hq => ?_)
    ·
      refine st_iload (pc := 126) dX12_said_126 rfl ?_
      exact bd_iret (pc := 128) hq dX12_said_128 rfl
    ·
      refine st_aload_n (pc := 17) dX12_said_17 rfl ?_
      refine st_iload (pc := 18) dX12_said_18 rfl ?_
      refine st_iconst (pc := 20) (v := (0 : Int32)) dX12_said_20 rfl ?_
      obtain ⟨⟨hbq3, hkq3⟩, hq⟩ := mh_oi hq
      obtain ⟨q3, e3, hq⟩ := mh_ob hq
      refine st_invV (pc := 21) (ci := 12) (vs := [.int l5, .int (0 : Int32)]) (rest := []) (st2 := [.int q3.1]) dX12_said_21 okX12_look (by decide) hkq3 hbq3 wd_1564 wd_1566 wp_75 pdX12_look rfl rfl rfl rfl (Nat.le_trans (by decide) hd) (Nat.le_of_ble_eq_true rfl) (T_X12_look (Nat.le_refl _) e3) rfl ?_
      refine st_iload_n (pc := 24) dX12_said_24 rfl ?_
      refine bd_icmp_ne (pc := 25) (tgt := 60) hq dX12_said_25 (by decide) (fun _ hq => ?_) (fun _ hq => ?_)
      ·
        refine st_iload_n (pc := 28) dX12_said_28 rfl ?_
        refine bd_if_eq (pc := 29) (tgt := 45) hq dX12_said_29 (by decide) (fun _ hq => ?_) (fun _ hq => ?_)
        ·
          exact T_X12_said_45 hd ih hq
        ·
          refine st_aload_n (pc := 32) dX12_said_32 rfl ?_
          refine st_iload (pc := 33) dX12_said_33 rfl ?_
          refine st_iconst (pc := 35) (v := (5 : Int32)) dX12_said_35 rfl ?_
          obtain ⟨⟨hbq4, hkq4⟩, hq⟩ := mh_oi hq
          obtain ⟨q4, e4, hq⟩ := mh_ob hq
          refine st_invV (pc := 36) (ci := 12) (vs := [.int l5, .int (5 : Int32)]) (rest := []) (st2 := [.int q4.1]) dX12_said_36 okX12_look (by decide) hkq4 hbq4 wd_1564 wd_1566 wp_75 pdX12_look rfl rfl rfl rfl (Nat.le_trans (by decide) hd) (Nat.le_of_ble_eq_true rfl) (T_X12_look (Nat.le_refl _) e4) rfl ?_
          refine st_iload_n (pc := 39) dX12_said_39 rfl ?_
          refine st_iconst (pc := 40) (v := (1 : Int32)) dX12_said_40 rfl ?_
          refine st_isub (pc := 41) dX12_said_41 ?_
          refine bd_icmp_ne (pc := 42) (tgt := 60) hq dX12_said_42 (by decide) (fun _ hq => ?_) (fun _ hq => ?_)
          ·
            exact T_X12_said_45 hd ih hq
          ·
            exact T_X12_said_60 hd ih hq
      ·
        exact T_X12_said_60 hd ih hq
def D_X12_said (N : Nat) (h : mh_H) (l0 : Nat) (l1 : Int32) (l2 : Int32) (l3 : Int32) : Option (Int32 × mh_H) :=
  D_X12_said_6 N N h l0 l1 l2 l3 (0 : Int32) (0 : Int32)
set_option maxHeartbeats 4000000 in
set_option maxRecDepth 100000 in
theorem T_X12_said {P : mh_E → Prop} {N d : Nat} (hd : 3 ≤ d) {z : (Int32 × mh_H)} {h : mh_H} {l0 : Nat} {l1 : Int32} {l2 : Int32} {l3 : Int32} (hq : D_X12_said N h l0 l1 l2 l3 = some z) : mh_go P d mX12_said 0 [some (.ref l0), some (.int l1), some (.int l2), some (.int l3), none, none, none, none] [] h (some (.int z.1)) z.2 := by
  unfold D_X12_said at hq
  refine st_iconst (pc := 0) (v := (0 : Int32)) dX12_said_0 rfl ?_
  refine st_istore (pc := 1) (lv' := [some (.ref l0), some (.int l1), some (.int l2), some (.int l3), some (.int (0 : Int32)), none, none, none]) dX12_said_1 rfl (by decide) rfl ?_
  refine st_iconst (pc := 3) (v := (0 : Int32)) dX12_said_3 rfl ?_
  refine st_istore (pc := 4) (lv' := [some (.ref l0), some (.int l1), some (.int l2), some (.int l3), some (.int (0 : Int32)), some (.int (0 : Int32)), none, none]) dX12_said_4 rfl (by decide) rfl ?_
  exact T_X12_said_6 hd N _ _ _ _ _ _ _ hq
-- HoleWaterModel.isWrongPair(II)I
theorem dX12_isWrongPair_0 : decode cX12_isWrongPair 0 = .ok (.aload_n 0, 1) := by decide +kernel
theorem dX12_isWrongPair_1 : decode cX12_isWrongPair 1 = .ok (.iload_n 1, 1) := by decide +kernel
theorem dX12_isWrongPair_2 : decode cX12_isWrongPair 2 = .ok (.invokevirtual 83, 3) := by decide +kernel
theorem dX12_isWrongPair_5 : decode cX12_isWrongPair 5 = .ok (.ifCond .eq 11, 3) := by decide +kernel
theorem dX12_isWrongPair_16 : decode cX12_isWrongPair 16 = .ok (.iconst 1, 1) := by decide +kernel
theorem dX12_isWrongPair_17 : decode cX12_isWrongPair 17 = .ok (.ireturn, 1) := by decide +kernel
theorem dX12_isWrongPair_8 : decode cX12_isWrongPair 8 = .ok (.aload_n 0, 1) := by decide +kernel
theorem dX12_isWrongPair_9 : decode cX12_isWrongPair 9 = .ok (.iload_n 2, 1) := by decide +kernel
theorem dX12_isWrongPair_10 : decode cX12_isWrongPair 10 = .ok (.invokevirtual 83, 3) := by decide +kernel
theorem dX12_isWrongPair_13 : decode cX12_isWrongPair 13 = .ok (.ifCond .ne 5, 3) := by decide +kernel
theorem dX12_isWrongPair_18 : decode cX12_isWrongPair 18 = .ok (.aload_n 0, 1) := by decide +kernel
theorem dX12_isWrongPair_19 : decode cX12_isWrongPair 19 = .ok (.iload_n 1, 1) := by decide +kernel
theorem dX12_isWrongPair_20 : decode cX12_isWrongPair 20 = .ok (.invokevirtual 96, 3) := by decide +kernel
theorem dX12_isWrongPair_23 : decode cX12_isWrongPair 23 = .ok (.ifCond .eq 15, 3) := by decide +kernel
theorem dX12_isWrongPair_38 : decode cX12_isWrongPair 38 = .ok (.iconst 5, 1) := by decide +kernel
theorem dX12_isWrongPair_39 : decode cX12_isWrongPair 39 = .ok (.ireturn, 1) := by decide +kernel
theorem dX12_isWrongPair_26 : decode cX12_isWrongPair 26 = .ok (.aload_n 0, 1) := by decide +kernel
theorem dX12_isWrongPair_27 : decode cX12_isWrongPair 27 = .ok (.iload_n 2, 1) := by decide +kernel
theorem dX12_isWrongPair_28 : decode cX12_isWrongPair 28 = .ok (.invokevirtual 126, 3) := by decide +kernel
theorem dX12_isWrongPair_31 : decode cX12_isWrongPair 31 = .ok (.ifCond .eq 7, 3) := by decide +kernel
theorem dX12_isWrongPair_34 : decode cX12_isWrongPair 34 = .ok (.iconst 0, 1) := by decide +kernel
theorem dX12_isWrongPair_35 : decode cX12_isWrongPair 35 = .ok (.goto 4, 3) := by decide +kernel
def D_X12_isWrongPair (N : Nat) (h : mh_H) (l0 : Nat) (l1 : Int32) (l2 : Int32) : Option (Int32 × mh_H) :=
  kO h 12 l0 <|
  (D_X12_isJoint N h l0 l1).bind fun q1 =>
  if q1.1 = 0 then (some ((1 : Int32), q1.2))
  else (kO q1.2 12 l0 <|
  (D_X12_isJoint N q1.2 l0 l2).bind fun q2 =>
  if q2.1 = 0 then (some ((1 : Int32), q2.2))
  else (kO q2.2 12 l0 <|
  (D_X12_isHole N q2.2 l0 l1).bind fun q3 =>
  if q3.1 = 0 then (some ((5 : Int32), q3.2))
  else (kO q3.2 12 l0 <|
  (D_X12_isSpring N q3.2 l0 l2).bind fun q4 =>
  if q4.1 = 0 then (some ((5 : Int32), q4.2))
  else (some ((0 : Int32), q4.2)))))
set_option maxHeartbeats 4000000 in
set_option maxRecDepth 100000 in
theorem T_X12_isWrongPair {P : mh_E → Prop} {N d : Nat} (hd : 4 ≤ d) {z : (Int32 × mh_H)} {h : mh_H} {l0 : Nat} {l1 : Int32} {l2 : Int32} (hq : D_X12_isWrongPair N h l0 l1 l2 = some z) : mh_go P d mX12_isWrongPair 0 [some (.ref l0), some (.int l1), some (.int l2)] [] h (some (.int z.1)) z.2 := by
  unfold D_X12_isWrongPair at hq
  refine st_aload_n (pc := 0) dX12_isWrongPair_0 rfl ?_
  refine st_iload_n (pc := 1) dX12_isWrongPair_1 rfl ?_
  obtain ⟨⟨hbq1, hkq1⟩, hq⟩ := mh_oi hq
  obtain ⟨q1, e1, hq⟩ := mh_ob hq
  refine st_invV (pc := 2) (ci := 12) (vs := [.int l1]) (rest := []) (st2 := [.int q1.1]) dX12_isWrongPair_2 okX12_isJoint (by decide) hkq1 hbq1 wd_1286 wd_1288 wp_38 pdX12_isJoint rfl rfl rfl rfl (Nat.le_trans (by decide) hd) (Nat.le_of_ble_eq_true rfl) (T_X12_isJoint (Nat.le_refl _) e1) rfl ?_
  refine bd_if_eq (pc := 5) (tgt := 16) hq dX12_isWrongPair_5 (by decide) (fun _ hq => ?_) (fun _ hq => ?_)
  ·
    refine st_iconst (pc := 16) (v := (1 : Int32)) dX12_isWrongPair_16 rfl ?_
    exact bd_iret (pc := 17) hq dX12_isWrongPair_17 rfl
  ·
    refine st_aload_n (pc := 8) dX12_isWrongPair_8 rfl ?_
    refine st_iload_n (pc := 9) dX12_isWrongPair_9 rfl ?_
    obtain ⟨⟨hbq2, hkq2⟩, hq⟩ := mh_oi hq
    obtain ⟨q2, e2, hq⟩ := mh_ob hq
    refine st_invV (pc := 10) (ci := 12) (vs := [.int l2]) (rest := []) (st2 := [.int q2.1]) dX12_isWrongPair_10 okX12_isJoint (by decide) hkq2 hbq2 wd_1286 wd_1288 wp_38 pdX12_isJoint rfl rfl rfl rfl (Nat.le_trans (by decide) hd) (Nat.le_of_ble_eq_true rfl) (T_X12_isJoint (Nat.le_refl _) e2) rfl ?_
    refine bd_if_ne (pc := 13) (tgt := 18) hq dX12_isWrongPair_13 (by decide) (fun _ hq => ?_) (fun _ hq => ?_)
    ·
      refine st_iconst (pc := 16) (v := (1 : Int32)) dX12_isWrongPair_16 rfl ?_
      exact bd_iret (pc := 17) hq dX12_isWrongPair_17 rfl
    ·
      refine st_aload_n (pc := 18) dX12_isWrongPair_18 rfl ?_
      refine st_iload_n (pc := 19) dX12_isWrongPair_19 rfl ?_
      obtain ⟨⟨hbq3, hkq3⟩, hq⟩ := mh_oi hq
      obtain ⟨q3, e3, hq⟩ := mh_ob hq
      refine st_invV (pc := 20) (ci := 12) (vs := [.int l1]) (rest := []) (st2 := [.int q3.1]) dX12_isWrongPair_20 okX12_isHole (by decide) hkq3 hbq3 wd_1305 wd_1307 wp_41 pdX12_isHole rfl rfl rfl rfl (Nat.le_trans (by decide) hd) (Nat.le_of_ble_eq_true rfl) (T_X12_isHole (Nat.le_refl _) e3) rfl ?_
      refine bd_if_eq (pc := 23) (tgt := 38) hq dX12_isWrongPair_23 (by decide) (fun _ hq => ?_) (fun _ hq => ?_)
      ·
        refine st_iconst (pc := 38) (v := (5 : Int32)) dX12_isWrongPair_38 rfl ?_
        exact bd_iret (pc := 39) hq dX12_isWrongPair_39 rfl
      ·
        refine st_aload_n (pc := 26) dX12_isWrongPair_26 rfl ?_
        refine st_iload_n (pc := 27) dX12_isWrongPair_27 rfl ?_
        obtain ⟨⟨hbq4, hkq4⟩, hq⟩ := mh_oi hq
        obtain ⟨q4, e4, hq⟩ := mh_ob hq
        refine st_invV (pc := 28) (ci := 12) (vs := [.int l2]) (rest := []) (st2 := [.int q4.1]) dX12_isWrongPair_28 okX12_isSpring (by decide) hkq4 hbq4 wd_1399 wd_1401 wp_52 pdX12_isSpring rfl rfl rfl rfl (Nat.le_trans (by decide) hd) (Nat.le_of_ble_eq_true rfl) (T_X12_isSpring (Nat.le_refl _) e4) rfl ?_
        refine bd_if_eq (pc := 31) (tgt := 38) hq dX12_isWrongPair_31 (by decide) (fun _ hq => ?_) (fun _ hq => ?_)
        ·
          refine st_iconst (pc := 38) (v := (5 : Int32)) dX12_isWrongPair_38 rfl ?_
          exact bd_iret (pc := 39) hq dX12_isWrongPair_39 rfl
        ·
          refine st_iconst (pc := 34) (v := (0 : Int32)) dX12_isWrongPair_34 rfl ?_
          refine st_goto (pc := 35) (tgt := 39) dX12_isWrongPair_35 (by decide) ?_
          exact bd_iret (pc := 39) hq dX12_isWrongPair_39 rfl
-- HoleWaterModel.joined(III)I
theorem dX12_joined_22 : decode cX12_joined 22 = .ok (.istore 4, 2) := by decide +kernel
theorem dX12_joined_24 : decode cX12_joined 24 = .ok (.iload 4, 2) := by decide +kernel
theorem dX12_joined_26 : decode cX12_joined 26 = .ok (.ifCond .ne 13, 3) := by decide +kernel
theorem dX12_joined_29 : decode cX12_joined 29 = .ok (.aload_n 0, 1) := by decide +kernel
theorem dX12_joined_30 : decode cX12_joined 30 = .ok (.iload_n 1, 1) := by decide +kernel
theorem dX12_joined_31 : decode cX12_joined 31 = .ok (.iload_n 2, 1) := by decide +kernel
theorem dX12_joined_32 : decode cX12_joined 32 = .ok (.iload_n 3, 1) := by decide +kernel
theorem dX12_joined_33 : decode cX12_joined 33 = .ok (.invokevirtual 281, 3) := by decide +kernel
theorem dX12_joined_36 : decode cX12_joined 36 = .ok (.goto 9, 3) := by decide +kernel
theorem dX12_joined_45 : decode cX12_joined 45 = .ok (.ireturn, 1) := by decide +kernel
theorem dX12_joined_39 : decode cX12_joined 39 = .ok (.aload_n 0, 1) := by decide +kernel
theorem dX12_joined_40 : decode cX12_joined 40 = .ok (.iload 4, 2) := by decide +kernel
theorem dX12_joined_42 : decode cX12_joined 42 = .ok (.invokevirtual 80, 3) := by decide +kernel
theorem dX12_joined_0 : decode cX12_joined 0 = .ok (.iload_n 3, 1) := by decide +kernel
theorem dX12_joined_1 : decode cX12_joined 1 = .ok (.i2l, 1) := by decide +kernel
theorem dX12_joined_2 : decode cX12_joined 2 = .ok (.lconst 0, 1) := by decide +kernel
theorem dX12_joined_3 : decode cX12_joined 3 = .ok (.ldc2_w 276, 3) := by decide +kernel
theorem dX12_joined_6 : decode cX12_joined 6 = .ok (.invokestatic 65, 3) := by decide +kernel
theorem dX12_joined_9 : decode cX12_joined 9 = .ok (.ifCond .eq 12, 3) := by decide +kernel
theorem dX12_joined_21 : decode cX12_joined 21 = .ok (.iconst 1, 1) := by decide +kernel
theorem dX12_joined_12 : decode cX12_joined 12 = .ok (.aload_n 0, 1) := by decide +kernel
theorem dX12_joined_13 : decode cX12_joined 13 = .ok (.iload_n 1, 1) := by decide +kernel
theorem dX12_joined_14 : decode cX12_joined 14 = .ok (.iload_n 2, 1) := by decide +kernel
theorem dX12_joined_15 : decode cX12_joined 15 = .ok (.invokevirtual 278, 3) := by decide +kernel
theorem dX12_joined_18 : decode cX12_joined 18 = .ok (.goto 4, 3) := by decide +kernel
def D_X12_joined_22 (N : Nat) (h : mh_H) (l0 : Nat) (l1 : Int32) (l2 : Int32) (l3 : Int32) (s0 : Int32) : Option (Int32 × mh_H) :=
  if s0 = 0 then (kO h 12 l0 <|
  (D_X12_said N h l0 l1 l2 l3).bind fun q1 =>
  some (q1.1, q1.2))
  else (kO h 12 l0 <|
  (D_X12_error N h l0 s0).bind fun q1 =>
  some (q1.1, q1.2))
set_option maxHeartbeats 4000000 in
set_option maxRecDepth 100000 in
theorem T_X12_joined_22 {P : mh_E → Prop} {N d : Nat} (hd : 5 ≤ d) {z : (Int32 × mh_H)} {h : mh_H} {l0 : Nat} {l1 : Int32} {l2 : Int32} {l3 : Int32} {s0 : Int32} (hq : D_X12_joined_22 N h l0 l1 l2 l3 s0 = some z) : mh_go P d mX12_joined 22 [some (.ref l0), some (.int l1), some (.int l2), some (.int l3), none] [.int s0] h (some (.int z.1)) z.2 := by
  unfold D_X12_joined_22 at hq
  refine st_istore (pc := 22) (lv' := [some (.ref l0), some (.int l1), some (.int l2), some (.int l3), some (.int s0)]) dX12_joined_22 rfl (by decide) rfl ?_
  refine st_iload (pc := 24) dX12_joined_24 rfl ?_
  refine bd_if_ne (pc := 26) (tgt := 39) hq dX12_joined_26 (by decide) (fun _ hq => ?_) (fun _ hq => ?_)
  ·
    refine st_aload_n (pc := 29) dX12_joined_29 rfl ?_
    refine st_iload_n (pc := 30) dX12_joined_30 rfl ?_
    refine st_iload_n (pc := 31) dX12_joined_31 rfl ?_
    refine st_iload_n (pc := 32) dX12_joined_32 rfl ?_
    obtain ⟨⟨hbq1, hkq1⟩, hq⟩ := mh_oi hq
    obtain ⟨q1, e1, hq⟩ := mh_ob hq
    refine st_invV (pc := 33) (ci := 12) (vs := [.int l1, .int l2, .int l3]) (rest := []) (st2 := [.int q1.1]) dX12_joined_33 okX12_said (by decide) hkq1 hbq1 wd_1577 wd_1579 wp_77 pdX12_said rfl rfl rfl rfl (Nat.le_trans (by decide) hd) (Nat.le_of_ble_eq_true rfl) (T_X12_said (Nat.le_refl _) e1) rfl ?_
    refine st_goto (pc := 36) (tgt := 45) dX12_joined_36 (by decide) ?_
    exact bd_iret (pc := 45) hq dX12_joined_45 rfl
  ·
    refine st_aload_n (pc := 39) dX12_joined_39 rfl ?_
    refine st_iload (pc := 40) dX12_joined_40 rfl ?_
    obtain ⟨⟨hbq1, hkq1⟩, hq⟩ := mh_oi hq
    obtain ⟨q1, e1, hq⟩ := mh_ob hq
    refine st_invV (pc := 42) (ci := 12) (vs := [.int s0]) (rest := []) (st2 := [.int q1.1]) dX12_joined_42 okX12_error (by decide) hkq1 hbq1 wd_1274 wd_1276 wp_37 pdX12_error rfl rfl rfl rfl (Nat.le_trans (by decide) hd) (Nat.le_of_ble_eq_true rfl) (T_X12_error (Nat.le_refl _) e1) rfl ?_
    exact bd_iret (pc := 45) hq dX12_joined_45 rfl
def D_X12_joined (N : Nat) (h : mh_H) (l0 : Nat) (l1 : Int32) (l2 : Int32) (l3 : Int32) : Option (Int32 × mh_H) :=
  (D_X12_in N h l3.toInt64 (0 : Int64) (2 : Int64)).bind fun q1 =>
  if q1.1 = 0 then (D_X12_joined_22 N q1.2 l0 l1 l2 l3 (1 : Int32))
  else (kO q1.2 12 l0 <|
  (D_X12_isWrongPair N q1.2 l0 l1 l2).bind fun q2 =>
  D_X12_joined_22 N q2.2 l0 l1 l2 l3 q2.1)
set_option maxHeartbeats 4000000 in
set_option maxRecDepth 100000 in
theorem T_X12_joined {P : mh_E → Prop} {N d : Nat} (hd : 5 ≤ d) {z : (Int32 × mh_H)} {h : mh_H} {l0 : Nat} {l1 : Int32} {l2 : Int32} {l3 : Int32} (hq : D_X12_joined N h l0 l1 l2 l3 = some z) : mh_go P d mX12_joined 0 [some (.ref l0), some (.int l1), some (.int l2), some (.int l3), none] [] h (some (.int z.1)) z.2 := by
  unfold D_X12_joined at hq
  refine st_iload_n (pc := 0) dX12_joined_0 rfl ?_
  refine st_i2l (pc := 1) dX12_joined_1 ?_
  refine st_lconst (pc := 2) (v := 0) dX12_joined_2 rfl ?_
  refine st_ldc2 (pc := 3) (v := (2 : Int64)) dX12_joined_3 wd_1572 ?_
  obtain ⟨q1, e1, hq⟩ := mh_ob hq
  refine st_invS (pc := 6) (Y := mX12_in) (vs := [.long l3.toInt64, .long (0 : Int64), .long (2 : Int64)]) (rest := []) (st2 := [.int q1.1]) dX12_joined_6 okX12_in wd_1270 wd_1271 pdX12_in rfl rfl rfl rfl (Nat.le_trans (by decide) hd) (Nat.le_of_ble_eq_true rfl) (T_X12_in (Nat.le_refl _) e1) rfl ?_
  refine bd_if_eq (pc := 9) (tgt := 21) hq dX12_joined_9 (by decide) (fun _ hq => ?_) (fun _ hq => ?_)
  ·
    refine st_iconst (pc := 21) (v := (1 : Int32)) dX12_joined_21 rfl ?_
    exact T_X12_joined_22 hd hq
  ·
    refine st_aload_n (pc := 12) dX12_joined_12 rfl ?_
    refine st_iload_n (pc := 13) dX12_joined_13 rfl ?_
    refine st_iload_n (pc := 14) dX12_joined_14 rfl ?_
    obtain ⟨⟨hbq2, hkq2⟩, hq⟩ := mh_oi hq
    obtain ⟨q2, e2, hq⟩ := mh_ob hq
    refine st_invV (pc := 15) (ci := 12) (vs := [.int l1, .int l2]) (rest := []) (st2 := [.int q2.1]) dX12_joined_15 okX12_isWrongPair (by decide) hkq2 hbq2 wd_1573 wd_1575 wp_76 pdX12_isWrongPair rfl rfl rfl rfl (Nat.le_trans (by decide) hd) (Nat.le_of_ble_eq_true rfl) (T_X12_isWrongPair (Nat.le_refl _) e2) rfl ?_
    refine st_goto (pc := 18) (tgt := 22) dX12_joined_18 (by decide) ?_
    exact T_X12_joined_22 hd hq
-- HoleWaterModel.never(II)I
theorem dX12_never_73 : decode cX12_never 73 = .ok (.iadd, 1) := by decide +kernel
theorem dX12_never_74 : decode cX12_never 74 = .ok (.istore 4, 2) := by decide +kernel
theorem dX12_never_76 : decode cX12_never 76 = .ok (.iinc 5 1, 3) := by decide +kernel
theorem dX12_never_79 : decode cX12_never 79 = .ok (.goto (-56), 3) := by decide +kernel
theorem dX12_never_72 : decode cX12_never 72 = .ok (.iconst 0, 1) := by decide +kernel
theorem dX12_never_23 : decode cX12_never 23 = .ok (.iload 5, 2) := by decide +kernel
theorem dX12_never_25 : decode cX12_never 25 = .ok (.aload_n 0, 1) := by decide +kernel
theorem dX12_never_26 : decode cX12_never 26 = .ok (.getfield 9, 3) := by decide +kernel
theorem dX12_never_29 : decode cX12_never 29 = .ok (.iconst 4, 1) := by decide +kernel
theorem dX12_never_30 : decode cX12_never 30 = .ok (.iaload, 1) := by decide +kernel
theorem dX12_never_31 : decode cX12_never 31 = .ok (.if_icmp .ge 51, 3) := by decide +kernel
theorem dX12_never_82 : decode cX12_never 82 = .ok (.iload 4, 2) := by decide +kernel
theorem dX12_never_84 : decode cX12_never 84 = .ok (.ireturn, 1) := by decide +kernel
theorem dX12_never_34 : decode cX12_never 34 = .ok (.iload 4, 2) := by decide +kernel
theorem dX12_never_36 : decode cX12_never 36 = .ok (.aload_n 0, 1) := by decide +kernel
theorem dX12_never_37 : decode cX12_never 37 = .ok (.iload 5, 2) := by decide +kernel
theorem dX12_never_39 : decode cX12_never 39 = .ok (.iconst 0, 1) := by decide +kernel
theorem dX12_never_40 : decode cX12_never 40 = .ok (.invokevirtual 269, 3) := by decide +kernel
theorem dX12_never_43 : decode cX12_never 43 = .ok (.iload_n 2, 1) := by decide +kernel
theorem dX12_never_44 : decode cX12_never 44 = .ok (.if_icmp .ne 28, 3) := by decide +kernel
theorem dX12_never_47 : decode cX12_never 47 = .ok (.aload_n 0, 1) := by decide +kernel
theorem dX12_never_48 : decode cX12_never 48 = .ok (.iload 5, 2) := by decide +kernel
theorem dX12_never_50 : decode cX12_never 50 = .ok (.iconst 4, 1) := by decide +kernel
theorem dX12_never_51 : decode cX12_never 51 = .ok (.invokevirtual 269, 3) := by decide +kernel
theorem dX12_never_54 : decode cX12_never 54 = .ok (.ifCond .ne 18, 3) := by decide +kernel
theorem dX12_never_57 : decode cX12_never 57 = .ok (.aload_n 0, 1) := by decide +kernel
theorem dX12_never_58 : decode cX12_never 58 = .ok (.iload 5, 2) := by decide +kernel
theorem dX12_never_60 : decode cX12_never 60 = .ok (.iload_n 1, 1) := by decide +kernel
theorem dX12_never_61 : decode cX12_never 61 = .ok (.iconst 0, 1) := by decide +kernel
theorem dX12_never_62 : decode cX12_never 62 = .ok (.invokevirtual 272, 3) := by decide +kernel
theorem dX12_never_65 : decode cX12_never 65 = .ok (.ifCond .eq 7, 3) := by decide +kernel
theorem dX12_never_68 : decode cX12_never 68 = .ok (.iconst 1, 1) := by decide +kernel
theorem dX12_never_69 : decode cX12_never 69 = .ok (.goto 4, 3) := by decide +kernel
theorem dX12_never_0 : decode cX12_never 0 = .ok (.aload_n 0, 1) := by decide +kernel
theorem dX12_never_1 : decode cX12_never 1 = .ok (.iload_n 1, 1) := by decide +kernel
theorem dX12_never_2 : decode cX12_never 2 = .ok (.iload_n 2, 1) := by decide +kernel
theorem dX12_never_3 : decode cX12_never 3 = .ok (.invokevirtual 278, 3) := by decide +kernel
theorem dX12_never_6 : decode cX12_never 6 = .ok (.istore_n 3, 1) := by decide +kernel
theorem dX12_never_7 : decode cX12_never 7 = .ok (.iload_n 3, 1) := by decide +kernel
theorem dX12_never_8 : decode cX12_never 8 = .ok (.ifCond .eq 9, 3) := by decide +kernel
theorem dX12_never_17 : decode cX12_never 17 = .ok (.iconst 0, 1) := by decide +kernel
theorem dX12_never_18 : decode cX12_never 18 = .ok (.istore 4, 2) := by decide +kernel
theorem dX12_never_20 : decode cX12_never 20 = .ok (.iconst 0, 1) := by decide +kernel
theorem dX12_never_21 : decode cX12_never 21 = .ok (.istore 5, 2) := by decide +kernel
theorem dX12_never_11 : decode cX12_never 11 = .ok (.aload_n 0, 1) := by decide +kernel
theorem dX12_never_12 : decode cX12_never 12 = .ok (.iload_n 3, 1) := by decide +kernel
theorem dX12_never_13 : decode cX12_never 13 = .ok (.invokevirtual 80, 3) := by decide +kernel
theorem dX12_never_16 : decode cX12_never 16 = .ok (.ireturn, 1) := by decide +kernel
def D_X12_never_73 (N : Nat) (k23 : mh_H → Nat → Int32 → Int32 → Int32 → Int32 → Option (Int32 × mh_H)) (h : mh_H) (l0 : Nat) (l1 : Int32) (l2 : Int32) (l5 : Int32) (s0 : Int32) (s1 : Int32) : Option (Int32 × mh_H) :=
  k23 h l0 l1 l2 (s0 + s1) (l5 + Int32.ofInt (1))
set_option maxHeartbeats 4000000 in
set_option maxRecDepth 100000 in
theorem T_X12_never_73 {P : mh_E → Prop} {N d : Nat} (hd : 5 ≤ d) {z : (Int32 × mh_H)} {k23 : mh_H → Nat → Int32 → Int32 → Int32 → Int32 → Option (Int32 × mh_H)} (hk23 : ∀ (h : mh_H) (l0 : Nat) (l1 : Int32) (l2 : Int32) (l4 : Int32) (l5 : Int32), k23 h l0 l1 l2 l4 l5 = some z → mh_go P d mX12_never 23 [some (.ref l0), some (.int l1), some (.int l2), none, some (.int l4), some (.int l5)] [] h (some (.int z.1)) z.2) {h : mh_H} {l0 : Nat} {l1 : Int32} {l2 : Int32} {l5 : Int32} {s0 : Int32} {s1 : Int32} (hq : D_X12_never_73 N k23 h l0 l1 l2 l5 s0 s1 = some z) : mh_go P d mX12_never 73 [some (.ref l0), some (.int l1), some (.int l2), none, none, some (.int l5)] [.int s1, .int s0] h (some (.int z.1)) z.2 := by
  unfold D_X12_never_73 at hq
  refine st_iadd (pc := 73) dX12_never_73 ?_
  refine st_istore (pc := 74) (lv' := [some (.ref l0), some (.int l1), some (.int l2), none, some (.int (s0 + s1)), some (.int l5)]) dX12_never_74 rfl (by decide) rfl ?_
  refine st_iinc (pc := 76) (lv' := [some (.ref l0), some (.int l1), some (.int l2), none, some (.int (s0 + s1)), some (.int (l5 + Int32.ofInt (1)))]) dX12_never_76 rfl rfl (by decide) rfl ?_
  refine st_goto (pc := 79) (tgt := 23) dX12_never_79 (by decide) ?_
  exact hk23 _ _ _ _ _ _ hq
def D_X12_never_72 (N : Nat) (k23 : mh_H → Nat → Int32 → Int32 → Int32 → Int32 → Option (Int32 × mh_H)) (h : mh_H) (l0 : Nat) (l1 : Int32) (l2 : Int32) (l5 : Int32) (s0 : Int32) : Option (Int32 × mh_H) :=
  D_X12_never_73 N k23 h l0 l1 l2 l5 s0 (0 : Int32)
set_option maxHeartbeats 4000000 in
set_option maxRecDepth 100000 in
theorem T_X12_never_72 {P : mh_E → Prop} {N d : Nat} (hd : 5 ≤ d) {z : (Int32 × mh_H)} {k23 : mh_H → Nat → Int32 → Int32 → Int32 → Int32 → Option (Int32 × mh_H)} (hk23 : ∀ (h : mh_H) (l0 : Nat) (l1 : Int32) (l2 : Int32) (l4 : Int32) (l5 : Int32), k23 h l0 l1 l2 l4 l5 = some z → mh_go P d mX12_never 23 [some (.ref l0), some (.int l1), some (.int l2), none, some (.int l4), some (.int l5)] [] h (some (.int z.1)) z.2) {h : mh_H} {l0 : Nat} {l1 : Int32} {l2 : Int32} {l5 : Int32} {s0 : Int32} (hq : D_X12_never_72 N k23 h l0 l1 l2 l5 s0 = some z) : mh_go P d mX12_never 72 [some (.ref l0), some (.int l1), some (.int l2), none, none, some (.int l5)] [.int s0] h (some (.int z.1)) z.2 := by
  unfold D_X12_never_72 at hq
  refine st_iconst (pc := 72) (v := (0 : Int32)) dX12_never_72 rfl ?_
  exact T_X12_never_73 hd hk23 hq
def D_X12_never_23 (N : Nat) : Nat → mh_H → Nat → Int32 → Int32 → Int32 → Int32 → Option (Int32 × mh_H)
  | 0, _, _, _, _, _, _ => none
  | F + 1, h, l0, l1, l2, l4, l5 =>
    (gR h 12 l0 0).bind fun v1 =>
    (aI h v1 (4 : Int32)).bind fun v2 =>
    if v2 ≤ l5 then (some (l4, h))
    else (kO h 12 l0 <|
    (D_X12_look N h l0 l5 (0 : Int32)).bind fun q3 =>
    if q3.1 = l2 then (kO q3.2 12 l0 <|
    (D_X12_look N q3.2 l0 l5 (4 : Int32)).bind fun q4 =>
    if q4.1 = 0 then (kO q4.2 12 l0 <|
    (D_X12_wasPut N q4.2 l0 l5 l1 (0 : Int32)).bind fun q5 =>
    if q5.1 = 0 then (D_X12_never_72 N (D_X12_never_23 N F) q5.2 l0 l1 l2 l5 l4)
    else (D_X12_never_73 N (D_X12_never_23 N F) q5.2 l0 l1 l2 l5 l4 (1 : Int32)))
    else (D_X12_never_72 N (D_X12_never_23 N F) q4.2 l0 l1 l2 l5 l4))
    else (D_X12_never_72 N (D_X12_never_23 N F) q3.2 l0 l1 l2 l5 l4))
set_option maxHeartbeats 4000000 in
set_option maxRecDepth 100000 in
theorem T_X12_never_23 {P : mh_E → Prop} {N d : Nat} (hd : 5 ≤ d) {z : (Int32 × mh_H)} : ∀ (F : Nat) (h : mh_H) (l0 : Nat) (l1 : Int32) (l2 : Int32) (l4 : Int32) (l5 : Int32), D_X12_never_23 N F h l0 l1 l2 l4 l5 = some z → mh_go P d mX12_never 23 [some (.ref l0), some (.int l1), some (.int l2), none, some (.int l4), some (.int l5)] [] h (some (.int z.1)) z.2 := by
  intro F
  induction F with
  | zero => intro h l0 l1 l2 l4 l5 hq; rw [D_X12_never_23] at hq; cases hq
  | succ F ih =>
    intro h l0 l1 l2 l4 l5 hq
    rw [D_X12_never_23] at hq
    refine st_iload (pc := 23) dX12_never_23 rfl ?_
    refine st_aload_n (pc := 25) dX12_never_25 rfl ?_
    refine bd_getr (pc := 26) hq dX12_never_26 fl_12_9_12 rfl (fun v1 hq => ?_)
    refine st_iconst (pc := 29) (v := (4 : Int32)) dX12_never_29 rfl ?_
    refine bd_iald (pc := 30) hq dX12_never_30 (fun v2 hq => ?_)
    refine bd_icmp_ge (pc := 31) (tgt := 82) hq dX12_never_31 (by decide) (fun _ hq => ?_) (fun _ hq => ?_)
    ·
      refine st_iload (pc := 82) dX12_never_82 rfl ?_
      exact bd_iret (pc := 84) hq dX12_never_84 rfl
    ·
      refine st_iload (pc := 34) dX12_never_34 rfl ?_
      refine st_aload_n (pc := 36) dX12_never_36 rfl ?_
      refine st_iload (pc := 37) dX12_never_37 rfl ?_
      refine st_iconst (pc := 39) (v := (0 : Int32)) dX12_never_39 rfl ?_
      obtain ⟨⟨hbq3, hkq3⟩, hq⟩ := mh_oi hq
      obtain ⟨q3, e3, hq⟩ := mh_ob hq
      refine st_invV (pc := 40) (ci := 12) (vs := [.int l5, .int (0 : Int32)]) (rest := [.int l4]) (st2 := [.int q3.1, .int l4]) dX12_never_40 okX12_look (by decide) hkq3 hbq3 wd_1564 wd_1566 wp_75 pdX12_look rfl rfl rfl rfl (Nat.le_trans (by decide) hd) (Nat.le_of_ble_eq_true rfl) (T_X12_look (Nat.le_refl _) e3) rfl ?_
      refine st_iload_n (pc := 43) dX12_never_43 rfl ?_
      refine bd_icmp_ne (pc := 44) (tgt := 72) hq dX12_never_44 (by decide) (fun _ hq => ?_) (fun _ hq => ?_)
      ·
        refine st_aload_n (pc := 47) dX12_never_47 rfl ?_
        refine st_iload (pc := 48) dX12_never_48 rfl ?_
        refine st_iconst (pc := 50) (v := (4 : Int32)) dX12_never_50 rfl ?_
        obtain ⟨⟨hbq4, hkq4⟩, hq⟩ := mh_oi hq
        obtain ⟨q4, e4, hq⟩ := mh_ob hq
        refine st_invV (pc := 51) (ci := 12) (vs := [.int l5, .int (4 : Int32)]) (rest := [.int l4]) (st2 := [.int q4.1, .int l4]) dX12_never_51 okX12_look (by decide) hkq4 hbq4 wd_1564 wd_1566 wp_75 pdX12_look rfl rfl rfl rfl (Nat.le_trans (by decide) hd) (Nat.le_of_ble_eq_true rfl) (T_X12_look (Nat.le_refl _) e4) rfl ?_
        refine bd_if_ne (pc := 54) (tgt := 72) hq dX12_never_54 (by decide) (fun _ hq => ?_) (fun _ hq => ?_)
        ·
          refine st_aload_n (pc := 57) dX12_never_57 rfl ?_
          refine st_iload (pc := 58) dX12_never_58 rfl ?_
          refine st_iload_n (pc := 60) dX12_never_60 rfl ?_
          refine st_iconst (pc := 61) (v := (0 : Int32)) dX12_never_61 rfl ?_
          obtain ⟨⟨hbq5, hkq5⟩, hq⟩ := mh_oi hq
          obtain ⟨q5, e5, hq⟩ := mh_ob hq
          refine st_invV (pc := 62) (ci := 12) (vs := [.int l5, .int l1, .int (0 : Int32)]) (rest := [.int l4]) (st2 := [.int q5.1, .int l4]) dX12_never_62 okX12_wasPut (by decide) hkq5 hbq5 wd_1581 wd_1583 wp_78 pdX12_wasPut rfl rfl rfl rfl (Nat.le_trans (by decide) hd) (Nat.le_of_ble_eq_true rfl) (T_X12_wasPut (Nat.le_refl _) e5) rfl ?_
          refine bd_if_eq (pc := 65) (tgt := 72) hq dX12_never_65 (by decide) (fun _ hq => ?_) (fun _ hq => ?_)
          ·
            refine st_lesS (lv' := [some (.ref l0), some (.int l1), some (.int l2), none, none, some (.int l5)]) ⟨Or.inr rfl, Or.inr rfl, Or.inr rfl, Or.inr rfl, Or.inl rfl, Or.inr rfl, trivial⟩ ?_
            exact T_X12_never_72 hd ih hq
          ·
            refine st_iconst (pc := 68) (v := (1 : Int32)) dX12_never_68 rfl ?_
            refine st_goto (pc := 69) (tgt := 73) dX12_never_69 (by decide) ?_
            refine st_lesS (lv' := [some (.ref l0), some (.int l1), some (.int l2), none, none, some (.int l5)]) ⟨Or.inr rfl, Or.inr rfl, Or.inr rfl, Or.inr rfl, Or.inl rfl, Or.inr rfl, trivial⟩ ?_
            exact T_X12_never_73 hd ih hq
        ·
          refine st_lesS (lv' := [some (.ref l0), some (.int l1), some (.int l2), none, none, some (.int l5)]) ⟨Or.inr rfl, Or.inr rfl, Or.inr rfl, Or.inr rfl, Or.inl rfl, Or.inr rfl, trivial⟩ ?_
          exact T_X12_never_72 hd ih hq
      ·
        refine st_lesS (lv' := [some (.ref l0), some (.int l1), some (.int l2), none, none, some (.int l5)]) ⟨Or.inr rfl, Or.inr rfl, Or.inr rfl, Or.inr rfl, Or.inl rfl, Or.inr rfl, trivial⟩ ?_
        exact T_X12_never_72 hd ih hq
def D_X12_never (N : Nat) (h : mh_H) (l0 : Nat) (l1 : Int32) (l2 : Int32) : Option (Int32 × mh_H) :=
  kO h 12 l0 <|
  (D_X12_isWrongPair N h l0 l1 l2).bind fun q1 =>
  if q1.1 = 0 then (D_X12_never_23 N N q1.2 l0 l1 l2 (0 : Int32) (0 : Int32))
  else (kO q1.2 12 l0 <|
  (D_X12_error N q1.2 l0 q1.1).bind fun q2 =>
  some (q2.1, q2.2))
set_option maxHeartbeats 4000000 in
set_option maxRecDepth 100000 in
theorem T_X12_never {P : mh_E → Prop} {N d : Nat} (hd : 5 ≤ d) {z : (Int32 × mh_H)} {h : mh_H} {l0 : Nat} {l1 : Int32} {l2 : Int32} (hq : D_X12_never N h l0 l1 l2 = some z) : mh_go P d mX12_never 0 [some (.ref l0), some (.int l1), some (.int l2), none, none, none] [] h (some (.int z.1)) z.2 := by
  unfold D_X12_never at hq
  refine st_aload_n (pc := 0) dX12_never_0 rfl ?_
  refine st_iload_n (pc := 1) dX12_never_1 rfl ?_
  refine st_iload_n (pc := 2) dX12_never_2 rfl ?_
  obtain ⟨⟨hbq1, hkq1⟩, hq⟩ := mh_oi hq
  obtain ⟨q1, e1, hq⟩ := mh_ob hq
  refine st_invV (pc := 3) (ci := 12) (vs := [.int l1, .int l2]) (rest := []) (st2 := [.int q1.1]) dX12_never_3 okX12_isWrongPair (by decide) hkq1 hbq1 wd_1573 wd_1575 wp_76 pdX12_isWrongPair rfl rfl rfl rfl (Nat.le_trans (by decide) hd) (Nat.le_of_ble_eq_true rfl) (T_X12_isWrongPair (Nat.le_refl _) e1) rfl ?_
  refine st_istore_n (pc := 6) (lv' := [some (.ref l0), some (.int l1), some (.int l2), some (.int q1.1), none, none]) dX12_never_6 rfl (by decide) rfl ?_
  refine st_iload_n (pc := 7) dX12_never_7 rfl ?_
  refine bd_if_eq (pc := 8) (tgt := 17) hq dX12_never_8 (by decide) (fun _ hq => ?_) (fun _ hq => ?_)
  ·
    refine st_iconst (pc := 17) (v := (0 : Int32)) dX12_never_17 rfl ?_
    refine st_istore (pc := 18) (lv' := [some (.ref l0), some (.int l1), some (.int l2), some (.int q1.1), some (.int (0 : Int32)), none]) dX12_never_18 rfl (by decide) rfl ?_
    refine st_iconst (pc := 20) (v := (0 : Int32)) dX12_never_20 rfl ?_
    refine st_istore (pc := 21) (lv' := [some (.ref l0), some (.int l1), some (.int l2), some (.int q1.1), some (.int (0 : Int32)), some (.int (0 : Int32))]) dX12_never_21 rfl (by decide) rfl ?_
    refine st_lesS (lv' := [some (.ref l0), some (.int l1), some (.int l2), none, some (.int (0 : Int32)), some (.int (0 : Int32))]) ⟨Or.inr rfl, Or.inr rfl, Or.inr rfl, Or.inl rfl, Or.inr rfl, Or.inr rfl, trivial⟩ ?_
    exact T_X12_never_23 hd N _ _ _ _ _ _ hq
  ·
    refine st_aload_n (pc := 11) dX12_never_11 rfl ?_
    refine st_iload_n (pc := 12) dX12_never_12 rfl ?_
    obtain ⟨⟨hbq2, hkq2⟩, hq⟩ := mh_oi hq
    obtain ⟨q2, e2, hq⟩ := mh_ob hq
    refine st_invV (pc := 13) (ci := 12) (vs := [.int q1.1]) (rest := []) (st2 := [.int q2.1]) dX12_never_13 okX12_error (by decide) hkq2 hbq2 wd_1274 wd_1276 wp_37 pdX12_error rfl rfl rfl rfl (Nat.le_trans (by decide) hd) (Nat.le_of_ble_eq_true rfl) (T_X12_error (Nat.le_refl _) e2) rfl ?_
    exact bd_iret (pc := 16) hq dX12_never_16 rfl
-- HoleWaterModel.span(IIII)I
theorem dX12_span_91 : decode cX12_span 91 = .ok (.iinc 8 1, 3) := by decide +kernel
theorem dX12_span_94 : decode cX12_span 94 = .ok (.goto (-43), 3) := by decide +kernel
theorem dX12_span_120 : decode cX12_span 120 = .ok (.aload_n 0, 1) := by decide +kernel
theorem dX12_span_121 : decode cX12_span 121 = .ok (.iconst 3, 1) := by decide +kernel
theorem dX12_span_122 : decode cX12_span 122 = .ok (.invokevirtual 80, 3) := by decide +kernel
theorem dX12_span_125 : decode cX12_span 125 = .ok (.ireturn, 1) := by decide +kernel
theorem dX12_span_243 : decode cX12_span 243 = .ok (.iinc 10 1, 3) := by decide +kernel
theorem dX12_span_246 : decode cX12_span 246 = .ok (.goto (-97), 3) := by decide +kernel
theorem dX12_span_149 : decode cX12_span 149 = .ok (.iload 10, 2) := by decide +kernel
theorem dX12_span_151 : decode cX12_span 151 = .ok (.aload_n 0, 1) := by decide +kernel
theorem dX12_span_152 : decode cX12_span 152 = .ok (.getfield 9, 3) := by decide +kernel
theorem dX12_span_155 : decode cX12_span 155 = .ok (.iconst 4, 1) := by decide +kernel
theorem dX12_span_156 : decode cX12_span 156 = .ok (.iaload, 1) := by decide +kernel
theorem dX12_span_157 : decode cX12_span 157 = .ok (.if_icmp .ge 92, 3) := by decide +kernel
theorem dX12_span_249 : decode cX12_span 249 = .ok (.aload_n 0, 1) := by decide +kernel
theorem dX12_span_250 : decode cX12_span 250 = .ok (.iconst 2, 1) := by decide +kernel
theorem dX12_span_251 : decode cX12_span 251 = .ok (.invokevirtual 80, 3) := by decide +kernel
theorem dX12_span_254 : decode cX12_span 254 = .ok (.ireturn, 1) := by decide +kernel
theorem dX12_span_160 : decode cX12_span 160 = .ok (.aload_n 0, 1) := by decide +kernel
theorem dX12_span_161 : decode cX12_span 161 = .ok (.iload 10, 2) := by decide +kernel
theorem dX12_span_163 : decode cX12_span 163 = .ok (.iconst 0, 1) := by decide +kernel
theorem dX12_span_164 : decode cX12_span 164 = .ok (.invokevirtual 269, 3) := by decide +kernel
theorem dX12_span_167 : decode cX12_span 167 = .ok (.iload_n 2, 1) := by decide +kernel
theorem dX12_span_168 : decode cX12_span 168 = .ok (.if_icmp .ne 75, 3) := by decide +kernel
theorem dX12_span_171 : decode cX12_span 171 = .ok (.aload_n 0, 1) := by decide +kernel
theorem dX12_span_172 : decode cX12_span 172 = .ok (.iload 10, 2) := by decide +kernel
theorem dX12_span_174 : decode cX12_span 174 = .ok (.iconst 1, 1) := by decide +kernel
theorem dX12_span_175 : decode cX12_span 175 = .ok (.invokevirtual 269, 3) := by decide +kernel
theorem dX12_span_178 : decode cX12_span 178 = .ok (.iload_n 3, 1) := by decide +kernel
theorem dX12_span_179 : decode cX12_span 179 = .ok (.if_icmp .ne 64, 3) := by decide +kernel
theorem dX12_span_182 : decode cX12_span 182 = .ok (.aload_n 0, 1) := by decide +kernel
theorem dX12_span_183 : decode cX12_span 183 = .ok (.iload 10, 2) := by decide +kernel
theorem dX12_span_185 : decode cX12_span 185 = .ok (.bipush 6, 2) := by decide +kernel
theorem dX12_span_187 : decode cX12_span 187 = .ok (.invokevirtual 269, 3) := by decide +kernel
theorem dX12_span_190 : decode cX12_span 190 = .ok (.iload 6, 2) := by decide +kernel
theorem dX12_span_192 : decode cX12_span 192 = .ok (.if_icmp .gt 6, 3) := by decide +kernel
theorem dX12_span_198 : decode cX12_span 198 = .ok (.aload_n 0, 1) := by decide +kernel
theorem dX12_span_199 : decode cX12_span 199 = .ok (.iload 10, 2) := by decide +kernel
theorem dX12_span_201 : decode cX12_span 201 = .ok (.iconst 4, 1) := by decide +kernel
theorem dX12_span_202 : decode cX12_span 202 = .ok (.invokevirtual 269, 3) := by decide +kernel
theorem dX12_span_205 : decode cX12_span 205 = .ok (.iconst 1, 1) := by decide +kernel
theorem dX12_span_206 : decode cX12_span 206 = .ok (.if_icmp .ne 25, 3) := by decide +kernel
theorem dX12_span_209 : decode cX12_span 209 = .ok (.iload 4, 2) := by decide +kernel
theorem dX12_span_211 : decode cX12_span 211 = .ok (.iconst 1, 1) := by decide +kernel
theorem dX12_span_212 : decode cX12_span 212 = .ok (.if_icmp .ne 16, 3) := by decide +kernel
theorem dX12_span_215 : decode cX12_span 215 = .ok (.aload_n 0, 1) := by decide +kernel
theorem dX12_span_216 : decode cX12_span 216 = .ok (.iload 10, 2) := by decide +kernel
theorem dX12_span_218 : decode cX12_span 218 = .ok (.iconst 2, 1) := by decide +kernel
theorem dX12_span_219 : decode cX12_span 219 = .ok (.invokevirtual 269, 3) := by decide +kernel
theorem dX12_span_222 : decode cX12_span 222 = .ok (.iload 8, 2) := by decide +kernel
theorem dX12_span_224 : decode cX12_span 224 = .ok (.isub, 1) := by decide +kernel
theorem dX12_span_225 : decode cX12_span 225 = .ok (.goto 5, 3) := by decide +kernel
theorem dX12_span_230 : decode cX12_span 230 = .ok (.ireturn, 1) := by decide +kernel
theorem dX12_span_228 : decode cX12_span 228 = .ok (.iload 9, 2) := by decide +kernel
theorem dX12_span_231 : decode cX12_span 231 = .ok (.aload_n 0, 1) := by decide +kernel
theorem dX12_span_232 : decode cX12_span 232 = .ok (.iload 10, 2) := by decide +kernel
theorem dX12_span_234 : decode cX12_span 234 = .ok (.iconst 2, 1) := by decide +kernel
theorem dX12_span_235 : decode cX12_span 235 = .ok (.invokevirtual 269, 3) := by decide +kernel
theorem dX12_span_238 : decode cX12_span 238 = .ok (.iload 8, 2) := by decide +kernel
theorem dX12_span_240 : decode cX12_span 240 = .ok (.isub, 1) := by decide +kernel
theorem dX12_span_241 : decode cX12_span 241 = .ok (.istore 9, 2) := by decide +kernel
theorem dX12_span_195 : decode cX12_span 195 = .ok (.goto 48, 3) := by decide +kernel
theorem dX12_span_51 : decode cX12_span 51 = .ok (.iload 8, 2) := by decide +kernel
theorem dX12_span_53 : decode cX12_span 53 = .ok (.aload_n 0, 1) := by decide +kernel
theorem dX12_span_54 : decode cX12_span 54 = .ok (.getfield 9, 3) := by decide +kernel
theorem dX12_span_57 : decode cX12_span 57 = .ok (.iconst 3, 1) := by decide +kernel
theorem dX12_span_58 : decode cX12_span 58 = .ok (.iaload, 1) := by decide +kernel
theorem dX12_span_59 : decode cX12_span 59 = .ok (.if_icmp .ge 38, 3) := by decide +kernel
theorem dX12_span_97 : decode cX12_span 97 = .ok (.iload 7, 2) := by decide +kernel
theorem dX12_span_99 : decode cX12_span 99 = .ok (.iconst 1, 1) := by decide +kernel
theorem dX12_span_100 : decode cX12_span 100 = .ok (.if_icmp .ne 20, 3) := by decide +kernel
theorem dX12_span_103 : decode cX12_span 103 = .ok (.aload_n 0, 1) := by decide +kernel
theorem dX12_span_104 : decode cX12_span 104 = .ok (.getfield 9, 3) := by decide +kernel
theorem dX12_span_107 : decode cX12_span 107 = .ok (.sipush 6916, 3) := by decide +kernel
theorem dX12_span_110 : decode cX12_span 110 = .ok (.iconst 4, 1) := by decide +kernel
theorem dX12_span_111 : decode cX12_span 111 = .ok (.iload 6, 2) := by decide +kernel
theorem dX12_span_113 : decode cX12_span 113 = .ok (.imul, 1) := by decide +kernel
theorem dX12_span_114 : decode cX12_span 114 = .ok (.iadd, 1) := by decide +kernel
theorem dX12_span_115 : decode cX12_span 115 = .ok (.iaload, 1) := by decide +kernel
theorem dX12_span_116 : decode cX12_span 116 = .ok (.iload_n 1, 1) := by decide +kernel
theorem dX12_span_117 : decode cX12_span 117 = .ok (.if_icmp .eq 9, 3) := by decide +kernel
theorem dX12_span_126 : decode cX12_span 126 = .ok (.aload_n 0, 1) := by decide +kernel
theorem dX12_span_127 : decode cX12_span 127 = .ok (.getfield 9, 3) := by decide +kernel
theorem dX12_span_130 : decode cX12_span 130 = .ok (.sipush 6916, 3) := by decide +kernel
theorem dX12_span_133 : decode cX12_span 133 = .ok (.iconst 4, 1) := by decide +kernel
theorem dX12_span_134 : decode cX12_span 134 = .ok (.iload 6, 2) := by decide +kernel
theorem dX12_span_136 : decode cX12_span 136 = .ok (.imul, 1) := by decide +kernel
theorem dX12_span_137 : decode cX12_span 137 = .ok (.iadd, 1) := by decide +kernel
theorem dX12_span_138 : decode cX12_span 138 = .ok (.iconst 3, 1) := by decide +kernel
theorem dX12_span_139 : decode cX12_span 139 = .ok (.iadd, 1) := by decide +kernel
theorem dX12_span_140 : decode cX12_span 140 = .ok (.iaload, 1) := by decide +kernel
theorem dX12_span_141 : decode cX12_span 141 = .ok (.istore 8, 2) := by decide +kernel
theorem dX12_span_143 : decode cX12_span 143 = .ok (.iconst 0, 1) := by decide +kernel
theorem dX12_span_144 : decode cX12_span 144 = .ok (.istore 9, 2) := by decide +kernel
theorem dX12_span_146 : decode cX12_span 146 = .ok (.iconst 0, 1) := by decide +kernel
theorem dX12_span_147 : decode cX12_span 147 = .ok (.istore 10, 2) := by decide +kernel
theorem dX12_span_62 : decode cX12_span 62 = .ok (.aload_n 0, 1) := by decide +kernel
theorem dX12_span_63 : decode cX12_span 63 = .ok (.getfield 9, 3) := by decide +kernel
theorem dX12_span_66 : decode cX12_span 66 = .ok (.sipush 6916, 3) := by decide +kernel
theorem dX12_span_69 : decode cX12_span 69 = .ok (.iconst 4, 1) := by decide +kernel
theorem dX12_span_70 : decode cX12_span 70 = .ok (.iload 8, 2) := by decide +kernel
theorem dX12_span_72 : decode cX12_span 72 = .ok (.imul, 1) := by decide +kernel
theorem dX12_span_73 : decode cX12_span 73 = .ok (.iadd, 1) := by decide +kernel
theorem dX12_span_74 : decode cX12_span 74 = .ok (.iconst 1, 1) := by decide +kernel
theorem dX12_span_75 : decode cX12_span 75 = .ok (.iadd, 1) := by decide +kernel
theorem dX12_span_76 : decode cX12_span 76 = .ok (.iaload, 1) := by decide +kernel
theorem dX12_span_77 : decode cX12_span 77 = .ok (.iload_n 3, 1) := by decide +kernel
theorem dX12_span_78 : decode cX12_span 78 = .ok (.if_icmp .eq 6, 3) := by decide +kernel
theorem dX12_span_84 : decode cX12_span 84 = .ok (.iinc 7 1, 3) := by decide +kernel
theorem dX12_span_87 : decode cX12_span 87 = .ok (.iload 8, 2) := by decide +kernel
theorem dX12_span_89 : decode cX12_span 89 = .ok (.istore 6, 2) := by decide +kernel
theorem dX12_span_81 : decode cX12_span 81 = .ok (.goto 10, 3) := by decide +kernel
theorem dX12_span_28 : decode cX12_span 28 = .ok (.istore 5, 2) := by decide +kernel
theorem dX12_span_30 : decode cX12_span 30 = .ok (.iload 5, 2) := by decide +kernel
theorem dX12_span_32 : decode cX12_span 32 = .ok (.ifCond .eq 10, 3) := by decide +kernel
theorem dX12_span_42 : decode cX12_span 42 = .ok (.iconst (-1), 1) := by decide +kernel
theorem dX12_span_43 : decode cX12_span 43 = .ok (.istore 6, 2) := by decide +kernel
theorem dX12_span_45 : decode cX12_span 45 = .ok (.iconst 0, 1) := by decide +kernel
theorem dX12_span_46 : decode cX12_span 46 = .ok (.istore 7, 2) := by decide +kernel
theorem dX12_span_48 : decode cX12_span 48 = .ok (.iconst 0, 1) := by decide +kernel
theorem dX12_span_49 : decode cX12_span 49 = .ok (.istore 8, 2) := by decide +kernel
theorem dX12_span_35 : decode cX12_span 35 = .ok (.aload_n 0, 1) := by decide +kernel
theorem dX12_span_36 : decode cX12_span 36 = .ok (.iload 5, 2) := by decide +kernel
theorem dX12_span_38 : decode cX12_span 38 = .ok (.invokevirtual 80, 3) := by decide +kernel
theorem dX12_span_41 : decode cX12_span 41 = .ok (.ireturn, 1) := by decide +kernel
theorem dX12_span_27 : decode cX12_span 27 = .ok (.iconst 1, 1) := by decide +kernel
theorem dX12_span_0 : decode cX12_span 0 = .ok (.iload_n 3, 1) := by decide +kernel
theorem dX12_span_1 : decode cX12_span 1 = .ok (.invokestatic 155, 3) := by decide +kernel
theorem dX12_span_4 : decode cX12_span 4 = .ok (.ifCond .eq 23, 3) := by decide +kernel
theorem dX12_span_7 : decode cX12_span 7 = .ok (.iload 4, 2) := by decide +kernel
theorem dX12_span_9 : decode cX12_span 9 = .ok (.i2l, 1) := by decide +kernel
theorem dX12_span_10 : decode cX12_span 10 = .ok (.lconst 0, 1) := by decide +kernel
theorem dX12_span_11 : decode cX12_span 11 = .ok (.lconst 1, 1) := by decide +kernel
theorem dX12_span_12 : decode cX12_span 12 = .ok (.invokestatic 65, 3) := by decide +kernel
theorem dX12_span_15 : decode cX12_span 15 = .ok (.ifCond .eq 12, 3) := by decide +kernel
theorem dX12_span_18 : decode cX12_span 18 = .ok (.aload_n 0, 1) := by decide +kernel
theorem dX12_span_19 : decode cX12_span 19 = .ok (.iload_n 1, 1) := by decide +kernel
theorem dX12_span_20 : decode cX12_span 20 = .ok (.iload_n 2, 1) := by decide +kernel
theorem dX12_span_21 : decode cX12_span 21 = .ok (.invokevirtual 278, 3) := by decide +kernel
theorem dX12_span_24 : decode cX12_span 24 = .ok (.goto 4, 3) := by decide +kernel
def D_X12_span_91 (N : Nat) (k51 : mh_H → Nat → Int32 → Int32 → Int32 → Int32 → Int32 → Int32 → Int32 → Option (Int32 × mh_H)) (h : mh_H) (l0 : Nat) (l1 : Int32) (l2 : Int32) (l3 : Int32) (l4 : Int32) (l6 : Int32) (l7 : Int32) (l8 : Int32) : Option (Int32 × mh_H) :=
  k51 h l0 l1 l2 l3 l4 l6 l7 (l8 + Int32.ofInt (1))
set_option maxHeartbeats 4000000 in
set_option maxRecDepth 100000 in
theorem T_X12_span_91 {P : mh_E → Prop} {N d : Nat} (hd : 5 ≤ d) {z : (Int32 × mh_H)} {k51 : mh_H → Nat → Int32 → Int32 → Int32 → Int32 → Int32 → Int32 → Int32 → Option (Int32 × mh_H)} (hk51 : ∀ (h : mh_H) (l0 : Nat) (l1 : Int32) (l2 : Int32) (l3 : Int32) (l4 : Int32) (l6 : Int32) (l7 : Int32) (l8 : Int32), k51 h l0 l1 l2 l3 l4 l6 l7 l8 = some z → mh_go P d mX12_span 51 [some (.ref l0), some (.int l1), some (.int l2), some (.int l3), some (.int l4), none, some (.int l6), some (.int l7), some (.int l8), none, none] [] h (some (.int z.1)) z.2) {h : mh_H} {l0 : Nat} {l1 : Int32} {l2 : Int32} {l3 : Int32} {l4 : Int32} {l6 : Int32} {l7 : Int32} {l8 : Int32} (hq : D_X12_span_91 N k51 h l0 l1 l2 l3 l4 l6 l7 l8 = some z) : mh_go P d mX12_span 91 [some (.ref l0), some (.int l1), some (.int l2), some (.int l3), some (.int l4), none, some (.int l6), some (.int l7), some (.int l8), none, none] [] h (some (.int z.1)) z.2 := by
  unfold D_X12_span_91 at hq
  refine st_iinc (pc := 91) (lv' := [some (.ref l0), some (.int l1), some (.int l2), some (.int l3), some (.int l4), none, some (.int l6), some (.int l7), some (.int (l8 + Int32.ofInt (1))), none, none]) dX12_span_91 rfl rfl (by decide) rfl ?_
  refine st_goto (pc := 94) (tgt := 51) dX12_span_94 (by decide) ?_
  exact hk51 _ _ _ _ _ _ _ _ _ hq
def D_X12_span_120 (N : Nat) (h : mh_H) (l0 : Nat) : Option (Int32 × mh_H) :=
  kO h 12 l0 <|
  (D_X12_error N h l0 (3 : Int32)).bind fun q1 =>
  some (q1.1, q1.2)
set_option maxHeartbeats 4000000 in
set_option maxRecDepth 100000 in
theorem T_X12_span_120 {P : mh_E → Prop} {N d : Nat} (hd : 5 ≤ d) {z : (Int32 × mh_H)} {h : mh_H} {l0 : Nat} (hq : D_X12_span_120 N h l0 = some z) : mh_go P d mX12_span 120 [some (.ref l0), none, none, none, none, none, none, none, none, none, none] [] h (some (.int z.1)) z.2 := by
  unfold D_X12_span_120 at hq
  refine st_aload_n (pc := 120) dX12_span_120 rfl ?_
  refine st_iconst (pc := 121) (v := (3 : Int32)) dX12_span_121 rfl ?_
  obtain ⟨⟨hbq1, hkq1⟩, hq⟩ := mh_oi hq
  obtain ⟨q1, e1, hq⟩ := mh_ob hq
  refine st_invV (pc := 122) (ci := 12) (vs := [.int (3 : Int32)]) (rest := []) (st2 := [.int q1.1]) dX12_span_122 okX12_error (by decide) hkq1 hbq1 wd_1274 wd_1276 wp_37 pdX12_error rfl rfl rfl rfl (Nat.le_trans (by decide) hd) (Nat.le_of_ble_eq_true rfl) (T_X12_error (Nat.le_refl _) e1) rfl ?_
  exact bd_iret (pc := 125) hq dX12_span_125 rfl
def D_X12_span_243 (N : Nat) (k149 : mh_H → Nat → Int32 → Int32 → Int32 → Int32 → Int32 → Int32 → Int32 → Option (Int32 × mh_H)) (h : mh_H) (l0 : Nat) (l2 : Int32) (l3 : Int32) (l4 : Int32) (l6 : Int32) (l8 : Int32) (l9 : Int32) (l10 : Int32) : Option (Int32 × mh_H) :=
  k149 h l0 l2 l3 l4 l6 l8 l9 (l10 + Int32.ofInt (1))
set_option maxHeartbeats 4000000 in
set_option maxRecDepth 100000 in
theorem T_X12_span_243 {P : mh_E → Prop} {N d : Nat} (hd : 5 ≤ d) {z : (Int32 × mh_H)} {k149 : mh_H → Nat → Int32 → Int32 → Int32 → Int32 → Int32 → Int32 → Int32 → Option (Int32 × mh_H)} (hk149 : ∀ (h : mh_H) (l0 : Nat) (l2 : Int32) (l3 : Int32) (l4 : Int32) (l6 : Int32) (l8 : Int32) (l9 : Int32) (l10 : Int32), k149 h l0 l2 l3 l4 l6 l8 l9 l10 = some z → mh_go P d mX12_span 149 [some (.ref l0), none, some (.int l2), some (.int l3), some (.int l4), none, some (.int l6), none, some (.int l8), some (.int l9), some (.int l10)] [] h (some (.int z.1)) z.2) {h : mh_H} {l0 : Nat} {l2 : Int32} {l3 : Int32} {l4 : Int32} {l6 : Int32} {l8 : Int32} {l9 : Int32} {l10 : Int32} (hq : D_X12_span_243 N k149 h l0 l2 l3 l4 l6 l8 l9 l10 = some z) : mh_go P d mX12_span 243 [some (.ref l0), none, some (.int l2), some (.int l3), some (.int l4), none, some (.int l6), none, some (.int l8), some (.int l9), some (.int l10)] [] h (some (.int z.1)) z.2 := by
  unfold D_X12_span_243 at hq
  refine st_iinc (pc := 243) (lv' := [some (.ref l0), none, some (.int l2), some (.int l3), some (.int l4), none, some (.int l6), none, some (.int l8), some (.int l9), some (.int (l10 + Int32.ofInt (1)))]) dX12_span_243 rfl rfl (by decide) rfl ?_
  refine st_goto (pc := 246) (tgt := 149) dX12_span_246 (by decide) ?_
  exact hk149 _ _ _ _ _ _ _ _ _ hq
def D_X12_span_149 (N : Nat) : Nat → mh_H → Nat → Int32 → Int32 → Int32 → Int32 → Int32 → Int32 → Int32 → Option (Int32 × mh_H)
  | 0, _, _, _, _, _, _, _, _, _ => none
  | F + 1, h, l0, l2, l3, l4, l6, l8, l9, l10 =>
    (gR h 12 l0 0).bind fun v1 =>
    (aI h v1 (4 : Int32)).bind fun v2 =>
    if v2 ≤ l10 then (kO h 12 l0 <|
    (D_X12_error N h l0 (2 : Int32)).bind fun q3 =>
    some (q3.1, q3.2))
    else (kO h 12 l0 <|
    (D_X12_look N h l0 l10 (0 : Int32)).bind fun q3 =>
    if q3.1 = l2 then (kO q3.2 12 l0 <|
    (D_X12_look N q3.2 l0 l10 (1 : Int32)).bind fun q4 =>
    if q4.1 = l3 then (kO q4.2 12 l0 <|
    (D_X12_look N q4.2 l0 l10 (6 : Int32)).bind fun q5 =>
    if l6 < q5.1 then (kO q5.2 12 l0 <|
    (D_X12_look N q5.2 l0 l10 (4 : Int32)).bind fun q6 =>
    if q6.1 = (1 : Int32) then (if l4 = (1 : Int32) then (kO q6.2 12 l0 <|
    (D_X12_look N q6.2 l0 l10 (2 : Int32)).bind fun q7 =>
    some (q7.1 - l8, q7.2))
    else (some (l9, q6.2)))
    else (kO q6.2 12 l0 <|
    (D_X12_look N q6.2 l0 l10 (2 : Int32)).bind fun q7 =>
    D_X12_span_243 N (D_X12_span_149 N F) q7.2 l0 l2 l3 l4 l6 l8 (q7.1 - l8) l10))
    else (D_X12_span_243 N (D_X12_span_149 N F) q5.2 l0 l2 l3 l4 l6 l8 l9 l10))
    else (D_X12_span_243 N (D_X12_span_149 N F) q4.2 l0 l2 l3 l4 l6 l8 l9 l10))
    else (D_X12_span_243 N (D_X12_span_149 N F) q3.2 l0 l2 l3 l4 l6 l8 l9 l10))
set_option maxHeartbeats 4000000 in
set_option maxRecDepth 100000 in
theorem T_X12_span_149 {P : mh_E → Prop} {N d : Nat} (hd : 5 ≤ d) {z : (Int32 × mh_H)} : ∀ (F : Nat) (h : mh_H) (l0 : Nat) (l2 : Int32) (l3 : Int32) (l4 : Int32) (l6 : Int32) (l8 : Int32) (l9 : Int32) (l10 : Int32), D_X12_span_149 N F h l0 l2 l3 l4 l6 l8 l9 l10 = some z → mh_go P d mX12_span 149 [some (.ref l0), none, some (.int l2), some (.int l3), some (.int l4), none, some (.int l6), none, some (.int l8), some (.int l9), some (.int l10)] [] h (some (.int z.1)) z.2 := by
  intro F
  induction F with
  | zero => intro h l0 l2 l3 l4 l6 l8 l9 l10 hq; rw [D_X12_span_149] at hq; cases hq
  | succ F ih =>
    intro h l0 l2 l3 l4 l6 l8 l9 l10 hq
    rw [D_X12_span_149] at hq
    refine st_iload (pc := 149) dX12_span_149 rfl ?_
    refine st_aload_n (pc := 151) dX12_span_151 rfl ?_
    refine bd_getr (pc := 152) hq dX12_span_152 fl_12_9_12 rfl (fun v1 hq => ?_)
    refine st_iconst (pc := 155) (v := (4 : Int32)) dX12_span_155 rfl ?_
    refine bd_iald (pc := 156) hq dX12_span_156 (fun v2 hq => ?_)
    refine bd_icmp_ge (pc := 157) (tgt := 249) hq dX12_span_157 (by decide) (fun _ hq => ?_) (fun _ hq => ?_)
    ·
      refine st_aload_n (pc := 249) dX12_span_249 rfl ?_
      refine st_iconst (pc := 250) (v := (2 : Int32)) dX12_span_250 rfl ?_
      obtain ⟨⟨hbq3, hkq3⟩, hq⟩ := mh_oi hq
      obtain ⟨q3, e3, hq⟩ := mh_ob hq
      refine st_invV (pc := 251) (ci := 12) (vs := [.int (2 : Int32)]) (rest := []) (st2 := [.int q3.1]) dX12_span_251 okX12_error (by decide) hkq3 hbq3 wd_1274 wd_1276 wp_37 pdX12_error rfl rfl rfl rfl (Nat.le_trans (by decide) hd) (Nat.le_of_ble_eq_true rfl) (T_X12_error (Nat.le_refl _) e3) rfl ?_
      exact bd_iret (pc := 254) hq dX12_span_254 rfl
    ·
      refine st_aload_n (pc := 160) dX12_span_160 rfl ?_
      refine st_iload (pc := 161) dX12_span_161 rfl ?_
      refine st_iconst (pc := 163) (v := (0 : Int32)) dX12_span_163 rfl ?_
      obtain ⟨⟨hbq3, hkq3⟩, hq⟩ := mh_oi hq
      obtain ⟨q3, e3, hq⟩ := mh_ob hq
      refine st_invV (pc := 164) (ci := 12) (vs := [.int l10, .int (0 : Int32)]) (rest := []) (st2 := [.int q3.1]) dX12_span_164 okX12_look (by decide) hkq3 hbq3 wd_1564 wd_1566 wp_75 pdX12_look rfl rfl rfl rfl (Nat.le_trans (by decide) hd) (Nat.le_of_ble_eq_true rfl) (T_X12_look (Nat.le_refl _) e3) rfl ?_
      refine st_iload_n (pc := 167) dX12_span_167 rfl ?_
      refine bd_icmp_ne (pc := 168) (tgt := 243) hq dX12_span_168 (by decide) (fun _ hq => ?_) (fun _ hq => ?_)
      ·
        refine st_aload_n (pc := 171) dX12_span_171 rfl ?_
        refine st_iload (pc := 172) dX12_span_172 rfl ?_
        refine st_iconst (pc := 174) (v := (1 : Int32)) dX12_span_174 rfl ?_
        obtain ⟨⟨hbq4, hkq4⟩, hq⟩ := mh_oi hq
        obtain ⟨q4, e4, hq⟩ := mh_ob hq
        refine st_invV (pc := 175) (ci := 12) (vs := [.int l10, .int (1 : Int32)]) (rest := []) (st2 := [.int q4.1]) dX12_span_175 okX12_look (by decide) hkq4 hbq4 wd_1564 wd_1566 wp_75 pdX12_look rfl rfl rfl rfl (Nat.le_trans (by decide) hd) (Nat.le_of_ble_eq_true rfl) (T_X12_look (Nat.le_refl _) e4) rfl ?_
        refine st_iload_n (pc := 178) dX12_span_178 rfl ?_
        refine bd_icmp_ne (pc := 179) (tgt := 243) hq dX12_span_179 (by decide) (fun _ hq => ?_) (fun _ hq => ?_)
        ·
          refine st_aload_n (pc := 182) dX12_span_182 rfl ?_
          refine st_iload (pc := 183) dX12_span_183 rfl ?_
          refine st_bipush (pc := 185) (v := (6 : Int32)) dX12_span_185 (by decide) ?_
          obtain ⟨⟨hbq5, hkq5⟩, hq⟩ := mh_oi hq
          obtain ⟨q5, e5, hq⟩ := mh_ob hq
          refine st_invV (pc := 187) (ci := 12) (vs := [.int l10, .int (6 : Int32)]) (rest := []) (st2 := [.int q5.1]) dX12_span_187 okX12_look (by decide) hkq5 hbq5 wd_1564 wd_1566 wp_75 pdX12_look rfl rfl rfl rfl (Nat.le_trans (by decide) hd) (Nat.le_of_ble_eq_true rfl) (T_X12_look (Nat.le_refl _) e5) rfl ?_
          refine st_iload (pc := 190) dX12_span_190 rfl ?_
          refine bd_icmp_gt (pc := 192) (tgt := 198) hq dX12_span_192 (by decide) (fun _ hq => ?_) (fun _ hq => ?_)
          ·
            refine st_aload_n (pc := 198) dX12_span_198 rfl ?_
            refine st_iload (pc := 199) dX12_span_199 rfl ?_
            refine st_iconst (pc := 201) (v := (4 : Int32)) dX12_span_201 rfl ?_
            obtain ⟨⟨hbq6, hkq6⟩, hq⟩ := mh_oi hq
            obtain ⟨q6, e6, hq⟩ := mh_ob hq
            refine st_invV (pc := 202) (ci := 12) (vs := [.int l10, .int (4 : Int32)]) (rest := []) (st2 := [.int q6.1]) dX12_span_202 okX12_look (by decide) hkq6 hbq6 wd_1564 wd_1566 wp_75 pdX12_look rfl rfl rfl rfl (Nat.le_trans (by decide) hd) (Nat.le_of_ble_eq_true rfl) (T_X12_look (Nat.le_refl _) e6) rfl ?_
            refine st_iconst (pc := 205) (v := (1 : Int32)) dX12_span_205 rfl ?_
            refine bd_icmp_ne (pc := 206) (tgt := 231) hq dX12_span_206 (by decide) (fun _ hq => ?_) (fun _ hq => ?_)
            ·
              refine st_iload (pc := 209) dX12_span_209 rfl ?_
              refine st_iconst (pc := 211) (v := (1 : Int32)) dX12_span_211 rfl ?_
              refine bd_icmp_ne (pc := 212) (tgt := 228) hq dX12_span_212 (by decide) (fun _ hq => ?_) (fun _ hq => ?_)
              ·
                refine st_aload_n (pc := 215) dX12_span_215 rfl ?_
                refine st_iload (pc := 216) dX12_span_216 rfl ?_
                refine st_iconst (pc := 218) (v := (2 : Int32)) dX12_span_218 rfl ?_
                obtain ⟨⟨hbq7, hkq7⟩, hq⟩ := mh_oi hq
                obtain ⟨q7, e7, hq⟩ := mh_ob hq
                refine st_invV (pc := 219) (ci := 12) (vs := [.int l10, .int (2 : Int32)]) (rest := []) (st2 := [.int q7.1]) dX12_span_219 okX12_look (by decide) hkq7 hbq7 wd_1564 wd_1566 wp_75 pdX12_look rfl rfl rfl rfl (Nat.le_trans (by decide) hd) (Nat.le_of_ble_eq_true rfl) (T_X12_look (Nat.le_refl _) e7) rfl ?_
                refine st_iload (pc := 222) dX12_span_222 rfl ?_
                refine st_isub (pc := 224) dX12_span_224 ?_
                refine st_goto (pc := 225) (tgt := 230) dX12_span_225 (by decide) ?_
                exact bd_iret (pc := 230) hq dX12_span_230 rfl
              ·
                refine st_iload (pc := 228) dX12_span_228 rfl ?_
                exact bd_iret (pc := 230) hq dX12_span_230 rfl
            ·
              refine st_aload_n (pc := 231) dX12_span_231 rfl ?_
              refine st_iload (pc := 232) dX12_span_232 rfl ?_
              refine st_iconst (pc := 234) (v := (2 : Int32)) dX12_span_234 rfl ?_
              obtain ⟨⟨hbq7, hkq7⟩, hq⟩ := mh_oi hq
              obtain ⟨q7, e7, hq⟩ := mh_ob hq
              refine st_invV (pc := 235) (ci := 12) (vs := [.int l10, .int (2 : Int32)]) (rest := []) (st2 := [.int q7.1]) dX12_span_235 okX12_look (by decide) hkq7 hbq7 wd_1564 wd_1566 wp_75 pdX12_look rfl rfl rfl rfl (Nat.le_trans (by decide) hd) (Nat.le_of_ble_eq_true rfl) (T_X12_look (Nat.le_refl _) e7) rfl ?_
              refine st_iload (pc := 238) dX12_span_238 rfl ?_
              refine st_isub (pc := 240) dX12_span_240 ?_
              refine st_istore (pc := 241) (lv' := [some (.ref l0), none, some (.int l2), some (.int l3), some (.int l4), none, some (.int l6), none, some (.int l8), some (.int (q7.1 - l8)), some (.int l10)]) dX12_span_241 rfl (by decide) rfl ?_
              exact T_X12_span_243 hd ih hq
          ·
            refine st_goto (pc := 195) (tgt := 243) dX12_span_195 (by decide) ?_
            exact T_X12_span_243 hd ih hq
        ·
          exact T_X12_span_243 hd ih hq
      ·
        exact T_X12_span_243 hd ih hq
def D_X12_span_51 (N : Nat) : Nat → mh_H → Nat → Int32 → Int32 → Int32 → Int32 → Int32 → Int32 → Int32 → Option (Int32 × mh_H)
  | 0, _, _, _, _, _, _, _, _, _ => none
  | F + 1, h, l0, l1, l2, l3, l4, l6, l7, l8 =>
    (gR h 12 l0 0).bind fun v1 =>
    (aI h v1 (3 : Int32)).bind fun v2 =>
    if v2 ≤ l8 then (if l7 = (1 : Int32) then ((gR h 12 l0 0).bind fun v3 =>
    (aI h v3 ((6916 : Int32) + ((4 : Int32) * l6))).bind fun v4 =>
    if v4 = l1 then ((gR h 12 l0 0).bind fun v5 =>
    (aI h v5 (((6916 : Int32) + ((4 : Int32) * l6)) + (3 : Int32))).bind fun v6 =>
    D_X12_span_149 N N h l0 l2 l3 l4 l6 v6 (0 : Int32) (0 : Int32))
    else (D_X12_span_120 N h l0))
    else (D_X12_span_120 N h l0))
    else ((gR h 12 l0 0).bind fun v3 =>
    (aI h v3 (((6916 : Int32) + ((4 : Int32) * l8)) + (1 : Int32))).bind fun v4 =>
    if v4 = l3 then (D_X12_span_91 N (D_X12_span_51 N F) h l0 l1 l2 l3 l4 l8 (l7 + Int32.ofInt (1)) l8)
    else (D_X12_span_91 N (D_X12_span_51 N F) h l0 l1 l2 l3 l4 l6 l7 l8))
set_option maxHeartbeats 4000000 in
set_option maxRecDepth 100000 in
theorem T_X12_span_51 {P : mh_E → Prop} {N d : Nat} (hd : 5 ≤ d) {z : (Int32 × mh_H)} : ∀ (F : Nat) (h : mh_H) (l0 : Nat) (l1 : Int32) (l2 : Int32) (l3 : Int32) (l4 : Int32) (l6 : Int32) (l7 : Int32) (l8 : Int32), D_X12_span_51 N F h l0 l1 l2 l3 l4 l6 l7 l8 = some z → mh_go P d mX12_span 51 [some (.ref l0), some (.int l1), some (.int l2), some (.int l3), some (.int l4), none, some (.int l6), some (.int l7), some (.int l8), none, none] [] h (some (.int z.1)) z.2 := by
  intro F
  induction F with
  | zero => intro h l0 l1 l2 l3 l4 l6 l7 l8 hq; rw [D_X12_span_51] at hq; cases hq
  | succ F ih =>
    intro h l0 l1 l2 l3 l4 l6 l7 l8 hq
    rw [D_X12_span_51] at hq
    refine st_iload (pc := 51) dX12_span_51 rfl ?_
    refine st_aload_n (pc := 53) dX12_span_53 rfl ?_
    refine bd_getr (pc := 54) hq dX12_span_54 fl_12_9_12 rfl (fun v1 hq => ?_)
    refine st_iconst (pc := 57) (v := (3 : Int32)) dX12_span_57 rfl ?_
    refine bd_iald (pc := 58) hq dX12_span_58 (fun v2 hq => ?_)
    refine bd_icmp_ge (pc := 59) (tgt := 97) hq dX12_span_59 (by decide) (fun _ hq => ?_) (fun _ hq => ?_)
    ·
      refine st_iload (pc := 97) dX12_span_97 rfl ?_
      refine st_iconst (pc := 99) (v := (1 : Int32)) dX12_span_99 rfl ?_
      refine bd_icmp_ne (pc := 100) (tgt := 120) hq dX12_span_100 (by decide) (fun _ hq => ?_) (fun _ hq => ?_)
      ·
        refine st_aload_n (pc := 103) dX12_span_103 rfl ?_
        refine bd_getr (pc := 104) hq dX12_span_104 fl_12_9_12 rfl (fun v3 hq => ?_)
        refine st_sipush (pc := 107) (v := (6916 : Int32)) dX12_span_107 (by decide) ?_
        refine st_iconst (pc := 110) (v := (4 : Int32)) dX12_span_110 rfl ?_
        refine st_iload (pc := 111) dX12_span_111 rfl ?_
        refine st_imul (pc := 113) dX12_span_113 ?_
        refine st_iadd (pc := 114) dX12_span_114 ?_
        refine bd_iald (pc := 115) hq dX12_span_115 (fun v4 hq => ?_)
        refine st_iload_n (pc := 116) dX12_span_116 rfl ?_
        refine bd_icmp_eq (pc := 117) (tgt := 126) hq dX12_span_117 (by decide) (fun _ hq => ?_) (fun _ hq => ?_)
        ·
          refine st_aload_n (pc := 126) dX12_span_126 rfl ?_
          refine bd_getr (pc := 127) hq dX12_span_127 fl_12_9_12 rfl (fun v5 hq => ?_)
          refine st_sipush (pc := 130) (v := (6916 : Int32)) dX12_span_130 (by decide) ?_
          refine st_iconst (pc := 133) (v := (4 : Int32)) dX12_span_133 rfl ?_
          refine st_iload (pc := 134) dX12_span_134 rfl ?_
          refine st_imul (pc := 136) dX12_span_136 ?_
          refine st_iadd (pc := 137) dX12_span_137 ?_
          refine st_iconst (pc := 138) (v := (3 : Int32)) dX12_span_138 rfl ?_
          refine st_iadd (pc := 139) dX12_span_139 ?_
          refine bd_iald (pc := 140) hq dX12_span_140 (fun v6 hq => ?_)
          refine st_istore (pc := 141) (lv' := [some (.ref l0), some (.int l1), some (.int l2), some (.int l3), some (.int l4), none, some (.int l6), some (.int l7), some (.int v6), none, none]) dX12_span_141 rfl (by decide) rfl ?_
          refine st_iconst (pc := 143) (v := (0 : Int32)) dX12_span_143 rfl ?_
          refine st_istore (pc := 144) (lv' := [some (.ref l0), some (.int l1), some (.int l2), some (.int l3), some (.int l4), none, some (.int l6), some (.int l7), some (.int v6), some (.int (0 : Int32)), none]) dX12_span_144 rfl (by decide) rfl ?_
          refine st_iconst (pc := 146) (v := (0 : Int32)) dX12_span_146 rfl ?_
          refine st_istore (pc := 147) (lv' := [some (.ref l0), some (.int l1), some (.int l2), some (.int l3), some (.int l4), none, some (.int l6), some (.int l7), some (.int v6), some (.int (0 : Int32)), some (.int (0 : Int32))]) dX12_span_147 rfl (by decide) rfl ?_
          refine st_lesS (lv' := [some (.ref l0), none, some (.int l2), some (.int l3), some (.int l4), none, some (.int l6), none, some (.int v6), some (.int (0 : Int32)), some (.int (0 : Int32))]) ⟨Or.inr rfl, Or.inl rfl, Or.inr rfl, Or.inr rfl, Or.inr rfl, Or.inr rfl, Or.inr rfl, Or.inl rfl, Or.inr rfl, Or.inr rfl, Or.inr rfl, trivial⟩ ?_
          exact T_X12_span_149 hd N _ _ _ _ _ _ _ _ _ hq
        ·
          refine st_lesS (lv' := [some (.ref l0), none, none, none, none, none, none, none, none, none, none]) ⟨Or.inr rfl, Or.inl rfl, Or.inl rfl, Or.inl rfl, Or.inl rfl, Or.inr rfl, Or.inl rfl, Or.inl rfl, Or.inl rfl, Or.inr rfl, Or.inr rfl, trivial⟩ ?_
          exact T_X12_span_120 hd hq
      ·
        refine st_lesS (lv' := [some (.ref l0), none, none, none, none, none, none, none, none, none, none]) ⟨Or.inr rfl, Or.inl rfl, Or.inl rfl, Or.inl rfl, Or.inl rfl, Or.inr rfl, Or.inl rfl, Or.inl rfl, Or.inl rfl, Or.inr rfl, Or.inr rfl, trivial⟩ ?_
        exact T_X12_span_120 hd hq
    ·
      refine st_aload_n (pc := 62) dX12_span_62 rfl ?_
      refine bd_getr (pc := 63) hq dX12_span_63 fl_12_9_12 rfl (fun v3 hq => ?_)
      refine st_sipush (pc := 66) (v := (6916 : Int32)) dX12_span_66 (by decide) ?_
      refine st_iconst (pc := 69) (v := (4 : Int32)) dX12_span_69 rfl ?_
      refine st_iload (pc := 70) dX12_span_70 rfl ?_
      refine st_imul (pc := 72) dX12_span_72 ?_
      refine st_iadd (pc := 73) dX12_span_73 ?_
      refine st_iconst (pc := 74) (v := (1 : Int32)) dX12_span_74 rfl ?_
      refine st_iadd (pc := 75) dX12_span_75 ?_
      refine bd_iald (pc := 76) hq dX12_span_76 (fun v4 hq => ?_)
      refine st_iload_n (pc := 77) dX12_span_77 rfl ?_
      refine bd_icmp_eq (pc := 78) (tgt := 84) hq dX12_span_78 (by decide) (fun _ hq => ?_) (fun _ hq => ?_)
      ·
        refine st_iinc (pc := 84) (lv' := [some (.ref l0), some (.int l1), some (.int l2), some (.int l3), some (.int l4), none, some (.int l6), some (.int (l7 + Int32.ofInt (1))), some (.int l8), none, none]) dX12_span_84 rfl rfl (by decide) rfl ?_
        refine st_iload (pc := 87) dX12_span_87 rfl ?_
        refine st_istore (pc := 89) (lv' := [some (.ref l0), some (.int l1), some (.int l2), some (.int l3), some (.int l4), none, some (.int l8), some (.int (l7 + Int32.ofInt (1))), some (.int l8), none, none]) dX12_span_89 rfl (by decide) rfl ?_
        exact T_X12_span_91 hd ih hq
      ·
        refine st_goto (pc := 81) (tgt := 91) dX12_span_81 (by decide) ?_
        exact T_X12_span_91 hd ih hq
def D_X12_span_28 (N : Nat) (h : mh_H) (l0 : Nat) (l1 : Int32) (l2 : Int32) (l3 : Int32) (l4 : Int32) (s0 : Int32) : Option (Int32 × mh_H) :=
  if s0 = 0 then (D_X12_span_51 N N h l0 l1 l2 l3 l4 (-1 : Int32) (0 : Int32) (0 : Int32))
  else (kO h 12 l0 <|
  (D_X12_error N h l0 s0).bind fun q1 =>
  some (q1.1, q1.2))
set_option maxHeartbeats 4000000 in
set_option maxRecDepth 100000 in
theorem T_X12_span_28 {P : mh_E → Prop} {N d : Nat} (hd : 5 ≤ d) {z : (Int32 × mh_H)} {h : mh_H} {l0 : Nat} {l1 : Int32} {l2 : Int32} {l3 : Int32} {l4 : Int32} {s0 : Int32} (hq : D_X12_span_28 N h l0 l1 l2 l3 l4 s0 = some z) : mh_go P d mX12_span 28 [some (.ref l0), some (.int l1), some (.int l2), some (.int l3), some (.int l4), none, none, none, none, none, none] [.int s0] h (some (.int z.1)) z.2 := by
  unfold D_X12_span_28 at hq
  refine st_istore (pc := 28) (lv' := [some (.ref l0), some (.int l1), some (.int l2), some (.int l3), some (.int l4), some (.int s0), none, none, none, none, none]) dX12_span_28 rfl (by decide) rfl ?_
  refine st_iload (pc := 30) dX12_span_30 rfl ?_
  refine bd_if_eq (pc := 32) (tgt := 42) hq dX12_span_32 (by decide) (fun _ hq => ?_) (fun _ hq => ?_)
  ·
    refine st_iconst (pc := 42) (v := (-1 : Int32)) dX12_span_42 rfl ?_
    refine st_istore (pc := 43) (lv' := [some (.ref l0), some (.int l1), some (.int l2), some (.int l3), some (.int l4), some (.int s0), some (.int (-1 : Int32)), none, none, none, none]) dX12_span_43 rfl (by decide) rfl ?_
    refine st_iconst (pc := 45) (v := (0 : Int32)) dX12_span_45 rfl ?_
    refine st_istore (pc := 46) (lv' := [some (.ref l0), some (.int l1), some (.int l2), some (.int l3), some (.int l4), some (.int s0), some (.int (-1 : Int32)), some (.int (0 : Int32)), none, none, none]) dX12_span_46 rfl (by decide) rfl ?_
    refine st_iconst (pc := 48) (v := (0 : Int32)) dX12_span_48 rfl ?_
    refine st_istore (pc := 49) (lv' := [some (.ref l0), some (.int l1), some (.int l2), some (.int l3), some (.int l4), some (.int s0), some (.int (-1 : Int32)), some (.int (0 : Int32)), some (.int (0 : Int32)), none, none]) dX12_span_49 rfl (by decide) rfl ?_
    refine st_lesS (lv' := [some (.ref l0), some (.int l1), some (.int l2), some (.int l3), some (.int l4), none, some (.int (-1 : Int32)), some (.int (0 : Int32)), some (.int (0 : Int32)), none, none]) ⟨Or.inr rfl, Or.inr rfl, Or.inr rfl, Or.inr rfl, Or.inr rfl, Or.inl rfl, Or.inr rfl, Or.inr rfl, Or.inr rfl, Or.inr rfl, Or.inr rfl, trivial⟩ ?_
    exact T_X12_span_51 hd N _ _ _ _ _ _ _ _ _ hq
  ·
    refine st_aload_n (pc := 35) dX12_span_35 rfl ?_
    refine st_iload (pc := 36) dX12_span_36 rfl ?_
    obtain ⟨⟨hbq1, hkq1⟩, hq⟩ := mh_oi hq
    obtain ⟨q1, e1, hq⟩ := mh_ob hq
    refine st_invV (pc := 38) (ci := 12) (vs := [.int s0]) (rest := []) (st2 := [.int q1.1]) dX12_span_38 okX12_error (by decide) hkq1 hbq1 wd_1274 wd_1276 wp_37 pdX12_error rfl rfl rfl rfl (Nat.le_trans (by decide) hd) (Nat.le_of_ble_eq_true rfl) (T_X12_error (Nat.le_refl _) e1) rfl ?_
    exact bd_iret (pc := 41) hq dX12_span_41 rfl
def D_X12_span_27 (N : Nat) (h : mh_H) (l0 : Nat) (l1 : Int32) (l2 : Int32) (l3 : Int32) (l4 : Int32) : Option (Int32 × mh_H) :=
  D_X12_span_28 N h l0 l1 l2 l3 l4 (1 : Int32)
set_option maxHeartbeats 4000000 in
set_option maxRecDepth 100000 in
theorem T_X12_span_27 {P : mh_E → Prop} {N d : Nat} (hd : 5 ≤ d) {z : (Int32 × mh_H)} {h : mh_H} {l0 : Nat} {l1 : Int32} {l2 : Int32} {l3 : Int32} {l4 : Int32} (hq : D_X12_span_27 N h l0 l1 l2 l3 l4 = some z) : mh_go P d mX12_span 27 [some (.ref l0), some (.int l1), some (.int l2), some (.int l3), some (.int l4), none, none, none, none, none, none] [] h (some (.int z.1)) z.2 := by
  unfold D_X12_span_27 at hq
  refine st_iconst (pc := 27) (v := (1 : Int32)) dX12_span_27 rfl ?_
  exact T_X12_span_28 hd hq
def D_X12_span (N : Nat) (h : mh_H) (l0 : Nat) (l1 : Int32) (l2 : Int32) (l3 : Int32) (l4 : Int32) : Option (Int32 × mh_H) :=
  (D_X12_isColour N h l3).bind fun q1 =>
  if q1.1 = 0 then (D_X12_span_27 N q1.2 l0 l1 l2 l3 l4)
  else ((D_X12_in N q1.2 l4.toInt64 (0 : Int64) (1 : Int64)).bind fun q2 =>
  if q2.1 = 0 then (D_X12_span_27 N q2.2 l0 l1 l2 l3 l4)
  else (kO q2.2 12 l0 <|
  (D_X12_isWrongPair N q2.2 l0 l1 l2).bind fun q3 =>
  D_X12_span_28 N q3.2 l0 l1 l2 l3 l4 q3.1))
set_option maxHeartbeats 4000000 in
set_option maxRecDepth 100000 in
theorem T_X12_span {P : mh_E → Prop} {N d : Nat} (hd : 5 ≤ d) {z : (Int32 × mh_H)} {h : mh_H} {l0 : Nat} {l1 : Int32} {l2 : Int32} {l3 : Int32} {l4 : Int32} (hq : D_X12_span N h l0 l1 l2 l3 l4 = some z) : mh_go P d mX12_span 0 [some (.ref l0), some (.int l1), some (.int l2), some (.int l3), some (.int l4), none, none, none, none, none, none] [] h (some (.int z.1)) z.2 := by
  unfold D_X12_span at hq
  refine st_iload_n (pc := 0) dX12_span_0 rfl ?_
  obtain ⟨q1, e1, hq⟩ := mh_ob hq
  refine st_invS (pc := 1) (Y := mX12_isColour) (vs := [.int l3]) (rest := []) (st2 := [.int q1.1]) dX12_span_1 okX12_isColour wd_1358 wd_1359 pdX12_isColour rfl rfl rfl rfl (Nat.le_trans (by decide) hd) (Nat.le_of_ble_eq_true rfl) (T_X12_isColour (Nat.le_refl _) e1) rfl ?_
  refine bd_if_eq (pc := 4) (tgt := 27) hq dX12_span_4 (by decide) (fun _ hq => ?_) (fun _ hq => ?_)
  ·
    exact T_X12_span_27 hd hq
  ·
    refine st_iload (pc := 7) dX12_span_7 rfl ?_
    refine st_i2l (pc := 9) dX12_span_9 ?_
    refine st_lconst (pc := 10) (v := 0) dX12_span_10 rfl ?_
    refine st_lconst (pc := 11) (v := 1) dX12_span_11 rfl ?_
    obtain ⟨q2, e2, hq⟩ := mh_ob hq
    refine st_invS (pc := 12) (Y := mX12_in) (vs := [.long l4.toInt64, .long (0 : Int64), .long (1 : Int64)]) (rest := []) (st2 := [.int q2.1]) dX12_span_12 okX12_in wd_1270 wd_1271 pdX12_in rfl rfl rfl rfl (Nat.le_trans (by decide) hd) (Nat.le_of_ble_eq_true rfl) (T_X12_in (Nat.le_refl _) e2) rfl ?_
    refine bd_if_eq (pc := 15) (tgt := 27) hq dX12_span_15 (by decide) (fun _ hq => ?_) (fun _ hq => ?_)
    ·
      exact T_X12_span_27 hd hq
    ·
      refine st_aload_n (pc := 18) dX12_span_18 rfl ?_
      refine st_iload_n (pc := 19) dX12_span_19 rfl ?_
      refine st_iload_n (pc := 20) dX12_span_20 rfl ?_
      obtain ⟨⟨hbq3, hkq3⟩, hq⟩ := mh_oi hq
      obtain ⟨q3, e3, hq⟩ := mh_ob hq
      refine st_invV (pc := 21) (ci := 12) (vs := [.int l1, .int l2]) (rest := []) (st2 := [.int q3.1]) dX12_span_21 okX12_isWrongPair (by decide) hkq3 hbq3 wd_1573 wd_1575 wp_76 pdX12_isWrongPair rfl rfl rfl rfl (Nat.le_trans (by decide) hd) (Nat.le_of_ble_eq_true rfl) (T_X12_isWrongPair (Nat.le_refl _) e3) rfl ?_
      refine st_goto (pc := 24) (tgt := 28) dX12_span_24 (by decide) ?_
      exact T_X12_span_28 hd hq
-- HoleWaterModel.musts(II)I
theorem dX12_musts_16 : decode cX12_musts 16 = .ok (.aload_n 0, 1) := by decide +kernel
theorem dX12_musts_17 : decode cX12_musts 17 = .ok (.iconst 1, 1) := by decide +kernel
theorem dX12_musts_18 : decode cX12_musts 18 = .ok (.invokevirtual 80, 3) := by decide +kernel
theorem dX12_musts_21 : decode cX12_musts 21 = .ok (.ireturn, 1) := by decide +kernel
theorem dX12_musts_144 : decode cX12_musts 144 = .ok (.iinc 5 1, 3) := by decide +kernel
theorem dX12_musts_147 : decode cX12_musts 147 = .ok (.goto (-106), 3) := by decide +kernel
theorem dX12_musts_41 : decode cX12_musts 41 = .ok (.iload 5, 2) := by decide +kernel
theorem dX12_musts_43 : decode cX12_musts 43 = .ok (.aload_n 0, 1) := by decide +kernel
theorem dX12_musts_44 : decode cX12_musts 44 = .ok (.getfield 9, 3) := by decide +kernel
theorem dX12_musts_47 : decode cX12_musts 47 = .ok (.iconst 1, 1) := by decide +kernel
theorem dX12_musts_48 : decode cX12_musts 48 = .ok (.iaload, 1) := by decide +kernel
theorem dX12_musts_49 : decode cX12_musts 49 = .ok (.if_icmp .ge 101, 3) := by decide +kernel
theorem dX12_musts_150 : decode cX12_musts 150 = .ok (.iinc 4 1, 3) := by decide +kernel
theorem dX12_musts_153 : decode cX12_musts 153 = .ok (.goto (-126), 3) := by decide +kernel
theorem dX12_musts_52 : decode cX12_musts 52 = .ok (.aload_n 0, 1) := by decide +kernel
theorem dX12_musts_53 : decode cX12_musts 53 = .ok (.iload 4, 2) := by decide +kernel
theorem dX12_musts_55 : decode cX12_musts 55 = .ok (.iload 5, 2) := by decide +kernel
theorem dX12_musts_57 : decode cX12_musts 57 = .ok (.invokevirtual 278, 3) := by decide +kernel
theorem dX12_musts_60 : decode cX12_musts 60 = .ok (.ifCond .ne 84, 3) := by decide +kernel
theorem dX12_musts_63 : decode cX12_musts 63 = .ok (.aload_n 0, 1) := by decide +kernel
theorem dX12_musts_64 : decode cX12_musts 64 = .ok (.iload 4, 2) := by decide +kernel
theorem dX12_musts_66 : decode cX12_musts 66 = .ok (.iload 5, 2) := by decide +kernel
theorem dX12_musts_68 : decode cX12_musts 68 = .ok (.iconst 2, 1) := by decide +kernel
theorem dX12_musts_69 : decode cX12_musts 69 = .ok (.invokevirtual 281, 3) := by decide +kernel
theorem dX12_musts_72 : decode cX12_musts 72 = .ok (.iconst 3, 1) := by decide +kernel
theorem dX12_musts_73 : decode cX12_musts 73 = .ok (.if_icmp .ne 71, 3) := by decide +kernel
theorem dX12_musts_76 : decode cX12_musts 76 = .ok (.aload_n 0, 1) := by decide +kernel
theorem dX12_musts_77 : decode cX12_musts 77 = .ok (.iload 4, 2) := by decide +kernel
theorem dX12_musts_79 : decode cX12_musts 79 = .ok (.iload 5, 2) := by decide +kernel
theorem dX12_musts_81 : decode cX12_musts 81 = .ok (.iconst 1, 1) := by decide +kernel
theorem dX12_musts_82 : decode cX12_musts 82 = .ok (.invokevirtual 281, 3) := by decide +kernel
theorem dX12_musts_85 : decode cX12_musts 85 = .ok (.iconst 1, 1) := by decide +kernel
theorem dX12_musts_86 : decode cX12_musts 86 = .ok (.if_icmp .eq 6, 3) := by decide +kernel
theorem dX12_musts_92 : decode cX12_musts 92 = .ok (.iload_n 3, 1) := by decide +kernel
theorem dX12_musts_93 : decode cX12_musts 93 = .ok (.ifCond .ne 48, 3) := by decide +kernel
theorem dX12_musts_96 : decode cX12_musts 96 = .ok (.iload_n 2, 1) := by decide +kernel
theorem dX12_musts_97 : decode cX12_musts 97 = .ok (.ifCond .ne 8, 3) := by decide +kernel
theorem dX12_musts_100 : decode cX12_musts 100 = .ok (.iload 4, 2) := by decide +kernel
theorem dX12_musts_102 : decode cX12_musts 102 = .ok (.goto 38, 3) := by decide +kernel
theorem dX12_musts_140 : decode cX12_musts 140 = .ok (.ireturn, 1) := by decide +kernel
theorem dX12_musts_105 : decode cX12_musts 105 = .ok (.iload_n 2, 1) := by decide +kernel
theorem dX12_musts_106 : decode cX12_musts 106 = .ok (.iconst 1, 1) := by decide +kernel
theorem dX12_musts_107 : decode cX12_musts 107 = .ok (.if_icmp .ne 8, 3) := by decide +kernel
theorem dX12_musts_110 : decode cX12_musts 110 = .ok (.iload 5, 2) := by decide +kernel
theorem dX12_musts_112 : decode cX12_musts 112 = .ok (.goto 28, 3) := by decide +kernel
theorem dX12_musts_115 : decode cX12_musts 115 = .ok (.aload_n 0, 1) := by decide +kernel
theorem dX12_musts_116 : decode cX12_musts 116 = .ok (.getfield 9, 3) := by decide +kernel
theorem dX12_musts_119 : decode cX12_musts 119 = .ok (.iload 4, 2) := by decide +kernel
theorem dX12_musts_121 : decode cX12_musts 121 = .ok (.invokestatic 71, 3) := by decide +kernel
theorem dX12_musts_124 : decode cX12_musts 124 = .ok (.iconst 2, 1) := by decide +kernel
theorem dX12_musts_125 : decode cX12_musts 125 = .ok (.iadd, 1) := by decide +kernel
theorem dX12_musts_126 : decode cX12_musts 126 = .ok (.iaload, 1) := by decide +kernel
theorem dX12_musts_127 : decode cX12_musts 127 = .ok (.aload_n 0, 1) := by decide +kernel
theorem dX12_musts_128 : decode cX12_musts 128 = .ok (.getfield 9, 3) := by decide +kernel
theorem dX12_musts_131 : decode cX12_musts 131 = .ok (.iload 5, 2) := by decide +kernel
theorem dX12_musts_133 : decode cX12_musts 133 = .ok (.invokestatic 71, 3) := by decide +kernel
theorem dX12_musts_136 : decode cX12_musts 136 = .ok (.iconst 2, 1) := by decide +kernel
theorem dX12_musts_137 : decode cX12_musts 137 = .ok (.iadd, 1) := by decide +kernel
theorem dX12_musts_138 : decode cX12_musts 138 = .ok (.iaload, 1) := by decide +kernel
theorem dX12_musts_139 : decode cX12_musts 139 = .ok (.isub, 1) := by decide +kernel
theorem dX12_musts_141 : decode cX12_musts 141 = .ok (.iinc 3 (-1), 3) := by decide +kernel
theorem dX12_musts_89 : decode cX12_musts 89 = .ok (.goto 55, 3) := by decide +kernel
theorem dX12_musts_27 : decode cX12_musts 27 = .ok (.iload 4, 2) := by decide +kernel
theorem dX12_musts_29 : decode cX12_musts 29 = .ok (.aload_n 0, 1) := by decide +kernel
theorem dX12_musts_30 : decode cX12_musts 30 = .ok (.getfield 9, 3) := by decide +kernel
theorem dX12_musts_33 : decode cX12_musts 33 = .ok (.iconst 1, 1) := by decide +kernel
theorem dX12_musts_34 : decode cX12_musts 34 = .ok (.iaload, 1) := by decide +kernel
theorem dX12_musts_35 : decode cX12_musts 35 = .ok (.if_icmp .ge 121, 3) := by decide +kernel
theorem dX12_musts_156 : decode cX12_musts 156 = .ok (.aload_n 0, 1) := by decide +kernel
theorem dX12_musts_157 : decode cX12_musts 157 = .ok (.iconst 2, 1) := by decide +kernel
theorem dX12_musts_158 : decode cX12_musts 158 = .ok (.invokevirtual 80, 3) := by decide +kernel
theorem dX12_musts_161 : decode cX12_musts 161 = .ok (.ireturn, 1) := by decide +kernel
theorem dX12_musts_38 : decode cX12_musts 38 = .ok (.iconst 0, 1) := by decide +kernel
theorem dX12_musts_39 : decode cX12_musts 39 = .ok (.istore 5, 2) := by decide +kernel
theorem dX12_musts_0 : decode cX12_musts 0 = .ok (.iload_n 1, 1) := by decide +kernel
theorem dX12_musts_1 : decode cX12_musts 1 = .ok (.ifCond .lt 15, 3) := by decide +kernel
theorem dX12_musts_4 : decode cX12_musts 4 = .ok (.iload_n 2, 1) := by decide +kernel
theorem dX12_musts_5 : decode cX12_musts 5 = .ok (.i2l, 1) := by decide +kernel
theorem dX12_musts_6 : decode cX12_musts 6 = .ok (.lconst 0, 1) := by decide +kernel
theorem dX12_musts_7 : decode cX12_musts 7 = .ok (.ldc2_w 276, 3) := by decide +kernel
theorem dX12_musts_10 : decode cX12_musts 10 = .ok (.invokestatic 65, 3) := by decide +kernel
theorem dX12_musts_13 : decode cX12_musts 13 = .ok (.ifCond .ne 9, 3) := by decide +kernel
theorem dX12_musts_22 : decode cX12_musts 22 = .ok (.iload_n 1, 1) := by decide +kernel
theorem dX12_musts_23 : decode cX12_musts 23 = .ok (.istore_n 3, 1) := by decide +kernel
theorem dX12_musts_24 : decode cX12_musts 24 = .ok (.iconst 0, 1) := by decide +kernel
theorem dX12_musts_25 : decode cX12_musts 25 = .ok (.istore 4, 2) := by decide +kernel
def D_X12_musts_16 (N : Nat) (h : mh_H) (l0 : Nat) : Option (Int32 × mh_H) :=
  kO h 12 l0 <|
  (D_X12_error N h l0 (1 : Int32)).bind fun q1 =>
  some (q1.1, q1.2)
set_option maxHeartbeats 4000000 in
set_option maxRecDepth 100000 in
theorem T_X12_musts_16 {P : mh_E → Prop} {N d : Nat} (hd : 5 ≤ d) {z : (Int32 × mh_H)} {h : mh_H} {l0 : Nat} (hq : D_X12_musts_16 N h l0 = some z) : mh_go P d mX12_musts 16 [some (.ref l0), none, none, none, none, none] [] h (some (.int z.1)) z.2 := by
  unfold D_X12_musts_16 at hq
  refine st_aload_n (pc := 16) dX12_musts_16 rfl ?_
  refine st_iconst (pc := 17) (v := (1 : Int32)) dX12_musts_17 rfl ?_
  obtain ⟨⟨hbq1, hkq1⟩, hq⟩ := mh_oi hq
  obtain ⟨q1, e1, hq⟩ := mh_ob hq
  refine st_invV (pc := 18) (ci := 12) (vs := [.int (1 : Int32)]) (rest := []) (st2 := [.int q1.1]) dX12_musts_18 okX12_error (by decide) hkq1 hbq1 wd_1274 wd_1276 wp_37 pdX12_error rfl rfl rfl rfl (Nat.le_trans (by decide) hd) (Nat.le_of_ble_eq_true rfl) (T_X12_error (Nat.le_refl _) e1) rfl ?_
  exact bd_iret (pc := 21) hq dX12_musts_21 rfl
def D_X12_musts_144 (N : Nat) (k27 : mh_H → Nat → Int32 → Int32 → Int32 → Option (Int32 × mh_H)) (k41 : mh_H → Nat → Int32 → Int32 → Int32 → Int32 → Option (Int32 × mh_H)) (h : mh_H) (l0 : Nat) (l2 : Int32) (l3 : Int32) (l4 : Int32) (l5 : Int32) : Option (Int32 × mh_H) :=
  k41 h l0 l2 l3 l4 (l5 + Int32.ofInt (1))
set_option maxHeartbeats 4000000 in
set_option maxRecDepth 100000 in
theorem T_X12_musts_144 {P : mh_E → Prop} {N d : Nat} (hd : 5 ≤ d) {z : (Int32 × mh_H)} {k27 : mh_H → Nat → Int32 → Int32 → Int32 → Option (Int32 × mh_H)} (hk27 : ∀ (h : mh_H) (l0 : Nat) (l2 : Int32) (l3 : Int32) (l4 : Int32), k27 h l0 l2 l3 l4 = some z → mh_go P d mX12_musts 27 [some (.ref l0), none, some (.int l2), some (.int l3), some (.int l4), none] [] h (some (.int z.1)) z.2) {k41 : mh_H → Nat → Int32 → Int32 → Int32 → Int32 → Option (Int32 × mh_H)} (hk41 : ∀ (h : mh_H) (l0 : Nat) (l2 : Int32) (l3 : Int32) (l4 : Int32) (l5 : Int32), k41 h l0 l2 l3 l4 l5 = some z → mh_go P d mX12_musts 41 [some (.ref l0), none, some (.int l2), some (.int l3), some (.int l4), some (.int l5)] [] h (some (.int z.1)) z.2) {h : mh_H} {l0 : Nat} {l2 : Int32} {l3 : Int32} {l4 : Int32} {l5 : Int32} (hq : D_X12_musts_144 N k27 k41 h l0 l2 l3 l4 l5 = some z) : mh_go P d mX12_musts 144 [some (.ref l0), none, some (.int l2), some (.int l3), some (.int l4), some (.int l5)] [] h (some (.int z.1)) z.2 := by
  unfold D_X12_musts_144 at hq
  refine st_iinc (pc := 144) (lv' := [some (.ref l0), none, some (.int l2), some (.int l3), some (.int l4), some (.int (l5 + Int32.ofInt (1)))]) dX12_musts_144 rfl rfl (by decide) rfl ?_
  refine st_goto (pc := 147) (tgt := 41) dX12_musts_147 (by decide) ?_
  exact hk41 _ _ _ _ _ _ hq
def D_X12_musts_41 (N : Nat) (k27 : mh_H → Nat → Int32 → Int32 → Int32 → Option (Int32 × mh_H)) : Nat → mh_H → Nat → Int32 → Int32 → Int32 → Int32 → Option (Int32 × mh_H)
  | 0, _, _, _, _, _, _ => none
  | F + 1, h, l0, l2, l3, l4, l5 =>
    (gR h 12 l0 0).bind fun v1 =>
    (aI h v1 (1 : Int32)).bind fun v2 =>
    if v2 ≤ l5 then (k27 h l0 l2 l3 (l4 + Int32.ofInt (1)))
    else (kO h 12 l0 <|
    (D_X12_isWrongPair N h l0 l4 l5).bind fun q3 =>
    if q3.1 = 0 then (kO q3.2 12 l0 <|
    (D_X12_said N q3.2 l0 l4 l5 (2 : Int32)).bind fun q4 =>
    if q4.1 = (3 : Int32) then (kO q4.2 12 l0 <|
    (D_X12_said N q4.2 l0 l4 l5 (1 : Int32)).bind fun q5 =>
    if q5.1 = (1 : Int32) then (if l3 = 0 then (if l2 = 0 then (some (l4, q5.2))
    else (if l2 = (1 : Int32) then (some (l5, q5.2))
    else ((gR q5.2 12 l0 0).bind fun v6 =>
    (D_X12_joint N q5.2 l4).bind fun q7 =>
    (aI q7.2 v6 (q7.1 + (2 : Int32))).bind fun v8 =>
    (gR q7.2 12 l0 0).bind fun v9 =>
    (D_X12_joint N q7.2 l5).bind fun q10 =>
    (aI q10.2 v9 (q10.1 + (2 : Int32))).bind fun v11 =>
    some (v8 - v11, q10.2))))
    else (D_X12_musts_144 N k27 (D_X12_musts_41 N k27 F) q5.2 l0 l2 (l3 + Int32.ofInt (-1)) l4 l5))
    else (D_X12_musts_144 N k27 (D_X12_musts_41 N k27 F) q5.2 l0 l2 l3 l4 l5))
    else (D_X12_musts_144 N k27 (D_X12_musts_41 N k27 F) q4.2 l0 l2 l3 l4 l5))
    else (D_X12_musts_144 N k27 (D_X12_musts_41 N k27 F) q3.2 l0 l2 l3 l4 l5))
set_option maxHeartbeats 4000000 in
set_option maxRecDepth 100000 in
theorem T_X12_musts_41 {P : mh_E → Prop} {N d : Nat} (hd : 5 ≤ d) {z : (Int32 × mh_H)} {k27 : mh_H → Nat → Int32 → Int32 → Int32 → Option (Int32 × mh_H)} (hk27 : ∀ (h : mh_H) (l0 : Nat) (l2 : Int32) (l3 : Int32) (l4 : Int32), k27 h l0 l2 l3 l4 = some z → mh_go P d mX12_musts 27 [some (.ref l0), none, some (.int l2), some (.int l3), some (.int l4), none] [] h (some (.int z.1)) z.2) : ∀ (F : Nat) (h : mh_H) (l0 : Nat) (l2 : Int32) (l3 : Int32) (l4 : Int32) (l5 : Int32), D_X12_musts_41 N k27 F h l0 l2 l3 l4 l5 = some z → mh_go P d mX12_musts 41 [some (.ref l0), none, some (.int l2), some (.int l3), some (.int l4), some (.int l5)] [] h (some (.int z.1)) z.2 := by
  intro F
  induction F with
  | zero => intro h l0 l2 l3 l4 l5 hq; rw [D_X12_musts_41] at hq; cases hq
  | succ F ih =>
    intro h l0 l2 l3 l4 l5 hq
    rw [D_X12_musts_41] at hq
    refine st_iload (pc := 41) dX12_musts_41 rfl ?_
    refine st_aload_n (pc := 43) dX12_musts_43 rfl ?_
    refine bd_getr (pc := 44) hq dX12_musts_44 fl_12_9_12 rfl (fun v1 hq => ?_)
    refine st_iconst (pc := 47) (v := (1 : Int32)) dX12_musts_47 rfl ?_
    refine bd_iald (pc := 48) hq dX12_musts_48 (fun v2 hq => ?_)
    refine bd_icmp_ge (pc := 49) (tgt := 150) hq dX12_musts_49 (by decide) (fun _ hq => ?_) (fun _ hq => ?_)
    ·
      refine st_iinc (pc := 150) (lv' := [some (.ref l0), none, some (.int l2), some (.int l3), some (.int (l4 + Int32.ofInt (1))), some (.int l5)]) dX12_musts_150 rfl rfl (by decide) rfl ?_
      refine st_goto (pc := 153) (tgt := 27) dX12_musts_153 (by decide) ?_
      refine st_lesS (lv' := [some (.ref l0), none, some (.int l2), some (.int l3), some (.int (l4 + Int32.ofInt (1))), none]) ⟨Or.inr rfl, Or.inr rfl, Or.inr rfl, Or.inr rfl, Or.inr rfl, Or.inl rfl, trivial⟩ ?_
      exact hk27 _ _ _ _ _ hq
    ·
      refine st_aload_n (pc := 52) dX12_musts_52 rfl ?_
      refine st_iload (pc := 53) dX12_musts_53 rfl ?_
      refine st_iload (pc := 55) dX12_musts_55 rfl ?_
      obtain ⟨⟨hbq3, hkq3⟩, hq⟩ := mh_oi hq
      obtain ⟨q3, e3, hq⟩ := mh_ob hq
      refine st_invV (pc := 57) (ci := 12) (vs := [.int l4, .int l5]) (rest := []) (st2 := [.int q3.1]) dX12_musts_57 okX12_isWrongPair (by decide) hkq3 hbq3 wd_1573 wd_1575 wp_76 pdX12_isWrongPair rfl rfl rfl rfl (Nat.le_trans (by decide) hd) (Nat.le_of_ble_eq_true rfl) (T_X12_isWrongPair (Nat.le_refl _) e3) rfl ?_
      refine bd_if_ne (pc := 60) (tgt := 144) hq dX12_musts_60 (by decide) (fun _ hq => ?_) (fun _ hq => ?_)
      ·
        refine st_aload_n (pc := 63) dX12_musts_63 rfl ?_
        refine st_iload (pc := 64) dX12_musts_64 rfl ?_
        refine st_iload (pc := 66) dX12_musts_66 rfl ?_
        refine st_iconst (pc := 68) (v := (2 : Int32)) dX12_musts_68 rfl ?_
        obtain ⟨⟨hbq4, hkq4⟩, hq⟩ := mh_oi hq
        obtain ⟨q4, e4, hq⟩ := mh_ob hq
        refine st_invV (pc := 69) (ci := 12) (vs := [.int l4, .int l5, .int (2 : Int32)]) (rest := []) (st2 := [.int q4.1]) dX12_musts_69 okX12_said (by decide) hkq4 hbq4 wd_1577 wd_1579 wp_77 pdX12_said rfl rfl rfl rfl (Nat.le_trans (by decide) hd) (Nat.le_of_ble_eq_true rfl) (T_X12_said (Nat.le_refl _) e4) rfl ?_
        refine st_iconst (pc := 72) (v := (3 : Int32)) dX12_musts_72 rfl ?_
        refine bd_icmp_ne (pc := 73) (tgt := 144) hq dX12_musts_73 (by decide) (fun _ hq => ?_) (fun _ hq => ?_)
        ·
          refine st_aload_n (pc := 76) dX12_musts_76 rfl ?_
          refine st_iload (pc := 77) dX12_musts_77 rfl ?_
          refine st_iload (pc := 79) dX12_musts_79 rfl ?_
          refine st_iconst (pc := 81) (v := (1 : Int32)) dX12_musts_81 rfl ?_
          obtain ⟨⟨hbq5, hkq5⟩, hq⟩ := mh_oi hq
          obtain ⟨q5, e5, hq⟩ := mh_ob hq
          refine st_invV (pc := 82) (ci := 12) (vs := [.int l4, .int l5, .int (1 : Int32)]) (rest := []) (st2 := [.int q5.1]) dX12_musts_82 okX12_said (by decide) hkq5 hbq5 wd_1577 wd_1579 wp_77 pdX12_said rfl rfl rfl rfl (Nat.le_trans (by decide) hd) (Nat.le_of_ble_eq_true rfl) (T_X12_said (Nat.le_refl _) e5) rfl ?_
          refine st_iconst (pc := 85) (v := (1 : Int32)) dX12_musts_85 rfl ?_
          refine bd_icmp_eq (pc := 86) (tgt := 92) hq dX12_musts_86 (by decide) (fun _ hq => ?_) (fun _ hq => ?_)
          ·
            refine st_iload_n (pc := 92) dX12_musts_92 rfl ?_
            refine bd_if_ne (pc := 93) (tgt := 141) hq dX12_musts_93 (by decide) (fun _ hq => ?_) (fun _ hq => ?_)
            ·
              refine st_iload_n (pc := 96) dX12_musts_96 rfl ?_
              refine bd_if_ne (pc := 97) (tgt := 105) hq dX12_musts_97 (by decide) (fun _ hq => ?_) (fun _ hq => ?_)
              ·
                refine st_iload (pc := 100) dX12_musts_100 rfl ?_
                refine st_goto (pc := 102) (tgt := 140) dX12_musts_102 (by decide) ?_
                exact bd_iret (pc := 140) hq dX12_musts_140 rfl
              ·
                refine st_iload_n (pc := 105) dX12_musts_105 rfl ?_
                refine st_iconst (pc := 106) (v := (1 : Int32)) dX12_musts_106 rfl ?_
                refine bd_icmp_ne (pc := 107) (tgt := 115) hq dX12_musts_107 (by decide) (fun _ hq => ?_) (fun _ hq => ?_)
                ·
                  refine st_iload (pc := 110) dX12_musts_110 rfl ?_
                  refine st_goto (pc := 112) (tgt := 140) dX12_musts_112 (by decide) ?_
                  exact bd_iret (pc := 140) hq dX12_musts_140 rfl
                ·
                  refine st_aload_n (pc := 115) dX12_musts_115 rfl ?_
                  refine bd_getr (pc := 116) hq dX12_musts_116 fl_12_9_12 rfl (fun v6 hq => ?_)
                  refine st_iload (pc := 119) dX12_musts_119 rfl ?_
                  obtain ⟨q7, e7, hq⟩ := mh_ob hq
                  refine st_invS (pc := 121) (Y := mX12_joint) (vs := [.int l4]) (rest := [.ref v6]) (st2 := [.int q7.1, .ref v6]) dX12_musts_121 okX12_joint wd_1279 wd_1280 pdX12_joint rfl rfl rfl rfl (Nat.le_trans (by decide) hd) (Nat.le_of_ble_eq_true rfl) (T_X12_joint (Nat.le_refl _) e7) rfl ?_
                  refine st_iconst (pc := 124) (v := (2 : Int32)) dX12_musts_124 rfl ?_
                  refine st_iadd (pc := 125) dX12_musts_125 ?_
                  refine bd_iald (pc := 126) hq dX12_musts_126 (fun v8 hq => ?_)
                  refine st_aload_n (pc := 127) dX12_musts_127 rfl ?_
                  refine bd_getr (pc := 128) hq dX12_musts_128 fl_12_9_12 rfl (fun v9 hq => ?_)
                  refine st_iload (pc := 131) dX12_musts_131 rfl ?_
                  obtain ⟨q10, e10, hq⟩ := mh_ob hq
                  refine st_invS (pc := 133) (Y := mX12_joint) (vs := [.int l5]) (rest := [.ref v9, .int v8]) (st2 := [.int q10.1, .ref v9, .int v8]) dX12_musts_133 okX12_joint wd_1279 wd_1280 pdX12_joint rfl rfl rfl rfl (Nat.le_trans (by decide) hd) (Nat.le_of_ble_eq_true rfl) (T_X12_joint (Nat.le_refl _) e10) rfl ?_
                  refine st_iconst (pc := 136) (v := (2 : Int32)) dX12_musts_136 rfl ?_
                  refine st_iadd (pc := 137) dX12_musts_137 ?_
                  refine bd_iald (pc := 138) hq dX12_musts_138 (fun v11 hq => ?_)
                  refine st_isub (pc := 139) dX12_musts_139 ?_
                  exact bd_iret (pc := 140) hq dX12_musts_140 rfl
            ·
              refine st_iinc (pc := 141) (lv' := [some (.ref l0), none, some (.int l2), some (.int (l3 + Int32.ofInt (-1))), some (.int l4), some (.int l5)]) dX12_musts_141 rfl rfl (by decide) rfl ?_
              exact T_X12_musts_144 hd hk27 ih hq
          ·
            refine st_goto (pc := 89) (tgt := 144) dX12_musts_89 (by decide) ?_
            exact T_X12_musts_144 hd hk27 ih hq
        ·
          exact T_X12_musts_144 hd hk27 ih hq
      ·
        exact T_X12_musts_144 hd hk27 ih hq
def D_X12_musts_27 (N : Nat) : Nat → mh_H → Nat → Int32 → Int32 → Int32 → Option (Int32 × mh_H)
  | 0, _, _, _, _, _ => none
  | F + 1, h, l0, l2, l3, l4 =>
    (gR h 12 l0 0).bind fun v1 =>
    (aI h v1 (1 : Int32)).bind fun v2 =>
    if v2 ≤ l4 then (kO h 12 l0 <|
    (D_X12_error N h l0 (2 : Int32)).bind fun q3 =>
    some (q3.1, q3.2))
    else (D_X12_musts_41 N (D_X12_musts_27 N F) N h l0 l2 l3 l4 (0 : Int32))
set_option maxHeartbeats 4000000 in
set_option maxRecDepth 100000 in
theorem T_X12_musts_27 {P : mh_E → Prop} {N d : Nat} (hd : 5 ≤ d) {z : (Int32 × mh_H)} : ∀ (F : Nat) (h : mh_H) (l0 : Nat) (l2 : Int32) (l3 : Int32) (l4 : Int32), D_X12_musts_27 N F h l0 l2 l3 l4 = some z → mh_go P d mX12_musts 27 [some (.ref l0), none, some (.int l2), some (.int l3), some (.int l4), none] [] h (some (.int z.1)) z.2 := by
  intro F
  induction F with
  | zero => intro h l0 l2 l3 l4 hq; rw [D_X12_musts_27] at hq; cases hq
  | succ F ih =>
    intro h l0 l2 l3 l4 hq
    rw [D_X12_musts_27] at hq
    refine st_iload (pc := 27) dX12_musts_27 rfl ?_
    refine st_aload_n (pc := 29) dX12_musts_29 rfl ?_
    refine bd_getr (pc := 30) hq dX12_musts_30 fl_12_9_12 rfl (fun v1 hq => ?_)
    refine st_iconst (pc := 33) (v := (1 : Int32)) dX12_musts_33 rfl ?_
    refine bd_iald (pc := 34) hq dX12_musts_34 (fun v2 hq => ?_)
    refine bd_icmp_ge (pc := 35) (tgt := 156) hq dX12_musts_35 (by decide) (fun _ hq => ?_) (fun _ hq => ?_)
    ·
      refine st_aload_n (pc := 156) dX12_musts_156 rfl ?_
      refine st_iconst (pc := 157) (v := (2 : Int32)) dX12_musts_157 rfl ?_
      obtain ⟨⟨hbq3, hkq3⟩, hq⟩ := mh_oi hq
      obtain ⟨q3, e3, hq⟩ := mh_ob hq
      refine st_invV (pc := 158) (ci := 12) (vs := [.int (2 : Int32)]) (rest := []) (st2 := [.int q3.1]) dX12_musts_158 okX12_error (by decide) hkq3 hbq3 wd_1274 wd_1276 wp_37 pdX12_error rfl rfl rfl rfl (Nat.le_trans (by decide) hd) (Nat.le_of_ble_eq_true rfl) (T_X12_error (Nat.le_refl _) e3) rfl ?_
      exact bd_iret (pc := 161) hq dX12_musts_161 rfl
    ·
      refine st_iconst (pc := 38) (v := (0 : Int32)) dX12_musts_38 rfl ?_
      refine st_istore (pc := 39) (lv' := [some (.ref l0), none, some (.int l2), some (.int l3), some (.int l4), some (.int (0 : Int32))]) dX12_musts_39 rfl (by decide) rfl ?_
      exact T_X12_musts_41 hd ih N _ _ _ _ _ _ hq
def D_X12_musts (N : Nat) (h : mh_H) (l0 : Nat) (l1 : Int32) (l2 : Int32) : Option (Int32 × mh_H) :=
  if l1 < 0 then (D_X12_musts_16 N h l0)
  else ((D_X12_in N h l2.toInt64 (0 : Int64) (2 : Int64)).bind fun q1 =>
  if q1.1 = 0 then (D_X12_musts_16 N q1.2 l0)
  else (D_X12_musts_27 N N q1.2 l0 l2 l1 (0 : Int32)))
set_option maxHeartbeats 4000000 in
set_option maxRecDepth 100000 in
theorem T_X12_musts {P : mh_E → Prop} {N d : Nat} (hd : 5 ≤ d) {z : (Int32 × mh_H)} {h : mh_H} {l0 : Nat} {l1 : Int32} {l2 : Int32} (hq : D_X12_musts N h l0 l1 l2 = some z) : mh_go P d mX12_musts 0 [some (.ref l0), some (.int l1), some (.int l2), none, none, none] [] h (some (.int z.1)) z.2 := by
  unfold D_X12_musts at hq
  refine st_iload_n (pc := 0) dX12_musts_0 rfl ?_
  refine bd_if_lt (pc := 1) (tgt := 16) hq dX12_musts_1 (by decide) (fun _ hq => ?_) (fun _ hq => ?_)
  ·
    refine st_lesS (lv' := [some (.ref l0), none, none, none, none, none]) ⟨Or.inr rfl, Or.inl rfl, Or.inl rfl, Or.inr rfl, Or.inr rfl, Or.inr rfl, trivial⟩ ?_
    exact T_X12_musts_16 hd hq
  ·
    refine st_iload_n (pc := 4) dX12_musts_4 rfl ?_
    refine st_i2l (pc := 5) dX12_musts_5 ?_
    refine st_lconst (pc := 6) (v := 0) dX12_musts_6 rfl ?_
    refine st_ldc2 (pc := 7) (v := (2 : Int64)) dX12_musts_7 wd_1572 ?_
    obtain ⟨q1, e1, hq⟩ := mh_ob hq
    refine st_invS (pc := 10) (Y := mX12_in) (vs := [.long l2.toInt64, .long (0 : Int64), .long (2 : Int64)]) (rest := []) (st2 := [.int q1.1]) dX12_musts_10 okX12_in wd_1270 wd_1271 pdX12_in rfl rfl rfl rfl (Nat.le_trans (by decide) hd) (Nat.le_of_ble_eq_true rfl) (T_X12_in (Nat.le_refl _) e1) rfl ?_
    refine bd_if_ne (pc := 13) (tgt := 22) hq dX12_musts_13 (by decide) (fun _ hq => ?_) (fun _ hq => ?_)
    ·
      refine st_lesS (lv' := [some (.ref l0), none, none, none, none, none]) ⟨Or.inr rfl, Or.inl rfl, Or.inl rfl, Or.inr rfl, Or.inr rfl, Or.inr rfl, trivial⟩ ?_
      exact T_X12_musts_16 hd hq
    ·
      refine st_iload_n (pc := 22) dX12_musts_22 rfl ?_
      refine st_istore_n (pc := 23) (lv' := [some (.ref l0), some (.int l1), some (.int l2), some (.int l1), none, none]) dX12_musts_23 rfl (by decide) rfl ?_
      refine st_iconst (pc := 24) (v := (0 : Int32)) dX12_musts_24 rfl ?_
      refine st_istore (pc := 25) (lv' := [some (.ref l0), some (.int l1), some (.int l2), some (.int l1), some (.int (0 : Int32)), none]) dX12_musts_25 rfl (by decide) rfl ?_
      refine st_lesS (lv' := [some (.ref l0), none, some (.int l2), some (.int l1), some (.int (0 : Int32)), none]) ⟨Or.inr rfl, Or.inl rfl, Or.inr rfl, Or.inr rfl, Or.inr rfl, Or.inr rfl, trivial⟩ ?_
      exact T_X12_musts_27 hd N _ _ _ _ _ hq
-- HoleWaterModel.side(III)I
theorem dX12_side_0 : decode cX12_side 0 = .ok (.aload_n 0, 1) := by decide +kernel
theorem dX12_side_1 : decode cX12_side 1 = .ok (.getfield 9, 3) := by decide +kernel
theorem dX12_side_4 : decode cX12_side 4 = .ok (.iload_n 1, 1) := by decide +kernel
theorem dX12_side_5 : decode cX12_side 5 = .ok (.invokestatic 71, 3) := by decide +kernel
theorem dX12_side_8 : decode cX12_side 8 = .ok (.iconst 1, 1) := by decide +kernel
theorem dX12_side_9 : decode cX12_side 9 = .ok (.iadd, 1) := by decide +kernel
theorem dX12_side_10 : decode cX12_side 10 = .ok (.iaload, 1) := by decide +kernel
theorem dX12_side_11 : decode cX12_side 11 = .ok (.istore 4, 2) := by decide +kernel
theorem dX12_side_13 : decode cX12_side 13 = .ok (.aload_n 0, 1) := by decide +kernel
theorem dX12_side_14 : decode cX12_side 14 = .ok (.getfield 9, 3) := by decide +kernel
theorem dX12_side_17 : decode cX12_side 17 = .ok (.iload_n 1, 1) := by decide +kernel
theorem dX12_side_18 : decode cX12_side 18 = .ok (.invokestatic 71, 3) := by decide +kernel
theorem dX12_side_21 : decode cX12_side 21 = .ok (.iconst 2, 1) := by decide +kernel
theorem dX12_side_22 : decode cX12_side 22 = .ok (.iadd, 1) := by decide +kernel
theorem dX12_side_23 : decode cX12_side 23 = .ok (.iaload, 1) := by decide +kernel
theorem dX12_side_24 : decode cX12_side 24 = .ok (.istore 5, 2) := by decide +kernel
theorem dX12_side_26 : decode cX12_side 26 = .ok (.aload_n 0, 1) := by decide +kernel
theorem dX12_side_27 : decode cX12_side 27 = .ok (.getfield 9, 3) := by decide +kernel
theorem dX12_side_30 : decode cX12_side 30 = .ok (.iload_n 2, 1) := by decide +kernel
theorem dX12_side_31 : decode cX12_side 31 = .ok (.invokestatic 71, 3) := by decide +kernel
theorem dX12_side_34 : decode cX12_side 34 = .ok (.iconst 1, 1) := by decide +kernel
theorem dX12_side_35 : decode cX12_side 35 = .ok (.iadd, 1) := by decide +kernel
theorem dX12_side_36 : decode cX12_side 36 = .ok (.iaload, 1) := by decide +kernel
theorem dX12_side_37 : decode cX12_side 37 = .ok (.iload 4, 2) := by decide +kernel
theorem dX12_side_39 : decode cX12_side 39 = .ok (.isub, 1) := by decide +kernel
theorem dX12_side_40 : decode cX12_side 40 = .ok (.aload_n 0, 1) := by decide +kernel
theorem dX12_side_41 : decode cX12_side 41 = .ok (.getfield 9, 3) := by decide +kernel
theorem dX12_side_44 : decode cX12_side 44 = .ok (.iload_n 3, 1) := by decide +kernel
theorem dX12_side_45 : decode cX12_side 45 = .ok (.invokestatic 71, 3) := by decide +kernel
theorem dX12_side_48 : decode cX12_side 48 = .ok (.iconst 2, 1) := by decide +kernel
theorem dX12_side_49 : decode cX12_side 49 = .ok (.iadd, 1) := by decide +kernel
theorem dX12_side_50 : decode cX12_side 50 = .ok (.iaload, 1) := by decide +kernel
theorem dX12_side_51 : decode cX12_side 51 = .ok (.iload 5, 2) := by decide +kernel
theorem dX12_side_53 : decode cX12_side 53 = .ok (.isub, 1) := by decide +kernel
theorem dX12_side_54 : decode cX12_side 54 = .ok (.imul, 1) := by decide +kernel
theorem dX12_side_55 : decode cX12_side 55 = .ok (.aload_n 0, 1) := by decide +kernel
theorem dX12_side_56 : decode cX12_side 56 = .ok (.getfield 9, 3) := by decide +kernel
theorem dX12_side_59 : decode cX12_side 59 = .ok (.iload_n 2, 1) := by decide +kernel
theorem dX12_side_60 : decode cX12_side 60 = .ok (.invokestatic 71, 3) := by decide +kernel
theorem dX12_side_63 : decode cX12_side 63 = .ok (.iconst 2, 1) := by decide +kernel
theorem dX12_side_64 : decode cX12_side 64 = .ok (.iadd, 1) := by decide +kernel
theorem dX12_side_65 : decode cX12_side 65 = .ok (.iaload, 1) := by decide +kernel
theorem dX12_side_66 : decode cX12_side 66 = .ok (.iload 5, 2) := by decide +kernel
theorem dX12_side_68 : decode cX12_side 68 = .ok (.isub, 1) := by decide +kernel
theorem dX12_side_69 : decode cX12_side 69 = .ok (.aload_n 0, 1) := by decide +kernel
theorem dX12_side_70 : decode cX12_side 70 = .ok (.getfield 9, 3) := by decide +kernel
theorem dX12_side_73 : decode cX12_side 73 = .ok (.iload_n 3, 1) := by decide +kernel
theorem dX12_side_74 : decode cX12_side 74 = .ok (.invokestatic 71, 3) := by decide +kernel
theorem dX12_side_77 : decode cX12_side 77 = .ok (.iconst 1, 1) := by decide +kernel
theorem dX12_side_78 : decode cX12_side 78 = .ok (.iadd, 1) := by decide +kernel
theorem dX12_side_79 : decode cX12_side 79 = .ok (.iaload, 1) := by decide +kernel
theorem dX12_side_80 : decode cX12_side 80 = .ok (.iload 4, 2) := by decide +kernel
theorem dX12_side_82 : decode cX12_side 82 = .ok (.isub, 1) := by decide +kernel
theorem dX12_side_83 : decode cX12_side 83 = .ok (.imul, 1) := by decide +kernel
theorem dX12_side_84 : decode cX12_side 84 = .ok (.isub, 1) := by decide +kernel
theorem dX12_side_85 : decode cX12_side 85 = .ok (.istore 6, 2) := by decide +kernel
theorem dX12_side_87 : decode cX12_side 87 = .ok (.iload 6, 2) := by decide +kernel
theorem dX12_side_89 : decode cX12_side 89 = .ok (.ifCond .ge 7, 3) := by decide +kernel
theorem dX12_side_96 : decode cX12_side 96 = .ok (.iload 6, 2) := by decide +kernel
theorem dX12_side_98 : decode cX12_side 98 = .ok (.ifCond .le 7, 3) := by decide +kernel
theorem dX12_side_105 : decode cX12_side 105 = .ok (.iconst 0, 1) := by decide +kernel
theorem dX12_side_106 : decode cX12_side 106 = .ok (.ireturn, 1) := by decide +kernel
theorem dX12_side_101 : decode cX12_side 101 = .ok (.iconst 1, 1) := by decide +kernel
theorem dX12_side_102 : decode cX12_side 102 = .ok (.goto 4, 3) := by decide +kernel
theorem dX12_side_92 : decode cX12_side 92 = .ok (.iconst (-1), 1) := by decide +kernel
theorem dX12_side_93 : decode cX12_side 93 = .ok (.goto 13, 3) := by decide +kernel
def D_X12_side (N : Nat) (h : mh_H) (l0 : Nat) (l1 : Int32) (l2 : Int32) (l3 : Int32) : Option (Int32 × mh_H) :=
  (gR h 12 l0 0).bind fun v1 =>
  (D_X12_joint N h l1).bind fun q2 =>
  (aI q2.2 v1 (q2.1 + (1 : Int32))).bind fun v3 =>
  (gR q2.2 12 l0 0).bind fun v4 =>
  (D_X12_joint N q2.2 l1).bind fun q5 =>
  (aI q5.2 v4 (q5.1 + (2 : Int32))).bind fun v6 =>
  (gR q5.2 12 l0 0).bind fun v7 =>
  (D_X12_joint N q5.2 l2).bind fun q8 =>
  (aI q8.2 v7 (q8.1 + (1 : Int32))).bind fun v9 =>
  (gR q8.2 12 l0 0).bind fun v10 =>
  (D_X12_joint N q8.2 l3).bind fun q11 =>
  (aI q11.2 v10 (q11.1 + (2 : Int32))).bind fun v12 =>
  (gR q11.2 12 l0 0).bind fun v13 =>
  (D_X12_joint N q11.2 l2).bind fun q14 =>
  (aI q14.2 v13 (q14.1 + (2 : Int32))).bind fun v15 =>
  (gR q14.2 12 l0 0).bind fun v16 =>
  (D_X12_joint N q14.2 l3).bind fun q17 =>
  (aI q17.2 v16 (q17.1 + (1 : Int32))).bind fun v18 =>
  mh_let (((v9 - v3) * (v12 - v6)) - ((v15 - v6) * (v18 - v3))) fun v19 =>
  if 0 ≤ v19 then (if v19 ≤ 0 then (some ((0 : Int32), q17.2))
  else (some ((1 : Int32), q17.2)))
  else (some ((-1 : Int32), q17.2))
set_option maxHeartbeats 4000000 in
set_option maxRecDepth 100000 in
theorem T_X12_side {P : mh_E → Prop} {N d : Nat} (hd : 2 ≤ d) {z : (Int32 × mh_H)} {h : mh_H} {l0 : Nat} {l1 : Int32} {l2 : Int32} {l3 : Int32} (hq : D_X12_side N h l0 l1 l2 l3 = some z) : mh_go P d mX12_side 0 [some (.ref l0), some (.int l1), some (.int l2), some (.int l3), none, none, none] [] h (some (.int z.1)) z.2 := by
  unfold D_X12_side at hq
  refine st_aload_n (pc := 0) dX12_side_0 rfl ?_
  refine bd_getr (pc := 1) hq dX12_side_1 fl_12_9_12 rfl (fun v1 hq => ?_)
  refine st_iload_n (pc := 4) dX12_side_4 rfl ?_
  obtain ⟨q2, e2, hq⟩ := mh_ob hq
  refine st_invS (pc := 5) (Y := mX12_joint) (vs := [.int l1]) (rest := [.ref v1]) (st2 := [.int q2.1, .ref v1]) dX12_side_5 okX12_joint wd_1279 wd_1280 pdX12_joint rfl rfl rfl rfl (Nat.le_trans (by decide) hd) (Nat.le_of_ble_eq_true rfl) (T_X12_joint (Nat.le_refl _) e2) rfl ?_
  refine st_iconst (pc := 8) (v := (1 : Int32)) dX12_side_8 rfl ?_
  refine st_iadd (pc := 9) dX12_side_9 ?_
  refine bd_iald (pc := 10) hq dX12_side_10 (fun v3 hq => ?_)
  refine st_istore (pc := 11) (lv' := [some (.ref l0), some (.int l1), some (.int l2), some (.int l3), some (.int v3), none, none]) dX12_side_11 rfl (by decide) rfl ?_
  refine st_aload_n (pc := 13) dX12_side_13 rfl ?_
  refine bd_getr (pc := 14) hq dX12_side_14 fl_12_9_12 rfl (fun v4 hq => ?_)
  refine st_iload_n (pc := 17) dX12_side_17 rfl ?_
  obtain ⟨q5, e5, hq⟩ := mh_ob hq
  refine st_invS (pc := 18) (Y := mX12_joint) (vs := [.int l1]) (rest := [.ref v4]) (st2 := [.int q5.1, .ref v4]) dX12_side_18 okX12_joint wd_1279 wd_1280 pdX12_joint rfl rfl rfl rfl (Nat.le_trans (by decide) hd) (Nat.le_of_ble_eq_true rfl) (T_X12_joint (Nat.le_refl _) e5) rfl ?_
  refine st_iconst (pc := 21) (v := (2 : Int32)) dX12_side_21 rfl ?_
  refine st_iadd (pc := 22) dX12_side_22 ?_
  refine bd_iald (pc := 23) hq dX12_side_23 (fun v6 hq => ?_)
  refine st_istore (pc := 24) (lv' := [some (.ref l0), some (.int l1), some (.int l2), some (.int l3), some (.int v3), some (.int v6), none]) dX12_side_24 rfl (by decide) rfl ?_
  refine st_aload_n (pc := 26) dX12_side_26 rfl ?_
  refine bd_getr (pc := 27) hq dX12_side_27 fl_12_9_12 rfl (fun v7 hq => ?_)
  refine st_iload_n (pc := 30) dX12_side_30 rfl ?_
  obtain ⟨q8, e8, hq⟩ := mh_ob hq
  refine st_invS (pc := 31) (Y := mX12_joint) (vs := [.int l2]) (rest := [.ref v7]) (st2 := [.int q8.1, .ref v7]) dX12_side_31 okX12_joint wd_1279 wd_1280 pdX12_joint rfl rfl rfl rfl (Nat.le_trans (by decide) hd) (Nat.le_of_ble_eq_true rfl) (T_X12_joint (Nat.le_refl _) e8) rfl ?_
  refine st_iconst (pc := 34) (v := (1 : Int32)) dX12_side_34 rfl ?_
  refine st_iadd (pc := 35) dX12_side_35 ?_
  refine bd_iald (pc := 36) hq dX12_side_36 (fun v9 hq => ?_)
  refine st_iload (pc := 37) dX12_side_37 rfl ?_
  refine st_isub (pc := 39) dX12_side_39 ?_
  refine st_aload_n (pc := 40) dX12_side_40 rfl ?_
  refine bd_getr (pc := 41) hq dX12_side_41 fl_12_9_12 rfl (fun v10 hq => ?_)
  refine st_iload_n (pc := 44) dX12_side_44 rfl ?_
  obtain ⟨q11, e11, hq⟩ := mh_ob hq
  refine st_invS (pc := 45) (Y := mX12_joint) (vs := [.int l3]) (rest := [.ref v10, .int (v9 - v3)]) (st2 := [.int q11.1, .ref v10, .int (v9 - v3)]) dX12_side_45 okX12_joint wd_1279 wd_1280 pdX12_joint rfl rfl rfl rfl (Nat.le_trans (by decide) hd) (Nat.le_of_ble_eq_true rfl) (T_X12_joint (Nat.le_refl _) e11) rfl ?_
  refine st_iconst (pc := 48) (v := (2 : Int32)) dX12_side_48 rfl ?_
  refine st_iadd (pc := 49) dX12_side_49 ?_
  refine bd_iald (pc := 50) hq dX12_side_50 (fun v12 hq => ?_)
  refine st_iload (pc := 51) dX12_side_51 rfl ?_
  refine st_isub (pc := 53) dX12_side_53 ?_
  refine st_imul (pc := 54) dX12_side_54 ?_
  refine st_aload_n (pc := 55) dX12_side_55 rfl ?_
  refine bd_getr (pc := 56) hq dX12_side_56 fl_12_9_12 rfl (fun v13 hq => ?_)
  refine st_iload_n (pc := 59) dX12_side_59 rfl ?_
  obtain ⟨q14, e14, hq⟩ := mh_ob hq
  refine st_invS (pc := 60) (Y := mX12_joint) (vs := [.int l2]) (rest := [.ref v13, .int ((v9 - v3) * (v12 - v6))]) (st2 := [.int q14.1, .ref v13, .int ((v9 - v3) * (v12 - v6))]) dX12_side_60 okX12_joint wd_1279 wd_1280 pdX12_joint rfl rfl rfl rfl (Nat.le_trans (by decide) hd) (Nat.le_of_ble_eq_true rfl) (T_X12_joint (Nat.le_refl _) e14) rfl ?_
  refine st_iconst (pc := 63) (v := (2 : Int32)) dX12_side_63 rfl ?_
  refine st_iadd (pc := 64) dX12_side_64 ?_
  refine bd_iald (pc := 65) hq dX12_side_65 (fun v15 hq => ?_)
  refine st_iload (pc := 66) dX12_side_66 rfl ?_
  refine st_isub (pc := 68) dX12_side_68 ?_
  refine st_aload_n (pc := 69) dX12_side_69 rfl ?_
  refine bd_getr (pc := 70) hq dX12_side_70 fl_12_9_12 rfl (fun v16 hq => ?_)
  refine st_iload_n (pc := 73) dX12_side_73 rfl ?_
  obtain ⟨q17, e17, hq⟩ := mh_ob hq
  refine st_invS (pc := 74) (Y := mX12_joint) (vs := [.int l3]) (rest := [.ref v16, .int (v15 - v6), .int ((v9 - v3) * (v12 - v6))]) (st2 := [.int q17.1, .ref v16, .int (v15 - v6), .int ((v9 - v3) * (v12 - v6))]) dX12_side_74 okX12_joint wd_1279 wd_1280 pdX12_joint rfl rfl rfl rfl (Nat.le_trans (by decide) hd) (Nat.le_of_ble_eq_true rfl) (T_X12_joint (Nat.le_refl _) e17) rfl ?_
  refine st_iconst (pc := 77) (v := (1 : Int32)) dX12_side_77 rfl ?_
  refine st_iadd (pc := 78) dX12_side_78 ?_
  refine bd_iald (pc := 79) hq dX12_side_79 (fun v18 hq => ?_)
  refine st_iload (pc := 80) dX12_side_80 rfl ?_
  refine st_isub (pc := 82) dX12_side_82 ?_
  refine st_imul (pc := 83) dX12_side_83 ?_
  refine st_isub (pc := 84) dX12_side_84 ?_
  refine bd_leti hq (fun v19 hq => ?_)
  refine st_istore (pc := 85) (lv' := [some (.ref l0), some (.int l1), some (.int l2), some (.int l3), some (.int v3), some (.int v6), some (.int v19)]) dX12_side_85 rfl (by decide) rfl ?_
  refine st_iload (pc := 87) dX12_side_87 rfl ?_
  refine bd_if_ge (pc := 89) (tgt := 96) hq dX12_side_89 (by decide) (fun _ hq => ?_) (fun _ hq => ?_)
  ·
    refine st_iload (pc := 96) dX12_side_96 rfl ?_
    refine bd_if_le (pc := 98) (tgt := 105) hq dX12_side_98 (by decide) (fun _ hq => ?_) (fun _ hq => ?_)
    ·
      refine st_iconst (pc := 105) (v := (0 : Int32)) dX12_side_105 rfl ?_
      exact bd_iret (pc := 106) hq dX12_side_106 rfl
    ·
      refine st_iconst (pc := 101) (v := (1 : Int32)) dX12_side_101 rfl ?_
      refine st_goto (pc := 102) (tgt := 106) dX12_side_102 (by decide) ?_
      exact bd_iret (pc := 106) hq dX12_side_106 rfl
  ·
    refine st_iconst (pc := 92) (v := (-1 : Int32)) dX12_side_92 rfl ?_
    refine st_goto (pc := 93) (tgt := 106) dX12_side_93 (by decide) ?_
    exact bd_iret (pc := 106) hq dX12_side_106 rfl
-- HoleWaterModel.crosses(IIII)I
theorem dX12_crosses_44 : decode cX12_crosses 44 = .ok (.aload_n 0, 1) := by decide +kernel
theorem dX12_crosses_45 : decode cX12_crosses 45 = .ok (.iconst 1, 1) := by decide +kernel
theorem dX12_crosses_46 : decode cX12_crosses 46 = .ok (.invokevirtual 80, 3) := by decide +kernel
theorem dX12_crosses_49 : decode cX12_crosses 49 = .ok (.ireturn, 1) := by decide +kernel
theorem dX12_crosses_69 : decode cX12_crosses 69 = .ok (.aload_n 0, 1) := by decide +kernel
theorem dX12_crosses_70 : decode cX12_crosses 70 = .ok (.iconst 5, 1) := by decide +kernel
theorem dX12_crosses_71 : decode cX12_crosses 71 = .ok (.invokevirtual 80, 3) := by decide +kernel
theorem dX12_crosses_74 : decode cX12_crosses 74 = .ok (.ireturn, 1) := by decide +kernel
theorem dX12_crosses_126 : decode cX12_crosses 126 = .ok (.istore 5, 2) := by decide +kernel
theorem dX12_crosses_128 : decode cX12_crosses 128 = .ok (.iload 5, 2) := by decide +kernel
theorem dX12_crosses_130 : decode cX12_crosses 130 = .ok (.ifCond .eq 46, 3) := by decide +kernel
theorem dX12_crosses_176 : decode cX12_crosses 176 = .ok (.iconst 0, 1) := by decide +kernel
theorem dX12_crosses_177 : decode cX12_crosses 177 = .ok (.ireturn, 1) := by decide +kernel
theorem dX12_crosses_133 : decode cX12_crosses 133 = .ok (.aload_n 0, 1) := by decide +kernel
theorem dX12_crosses_134 : decode cX12_crosses 134 = .ok (.iload_n 1, 1) := by decide +kernel
theorem dX12_crosses_135 : decode cX12_crosses 135 = .ok (.iload_n 2, 1) := by decide +kernel
theorem dX12_crosses_136 : decode cX12_crosses 136 = .ok (.iload_n 3, 1) := by decide +kernel
theorem dX12_crosses_137 : decode cX12_crosses 137 = .ok (.invokevirtual 284, 3) := by decide +kernel
theorem dX12_crosses_140 : decode cX12_crosses 140 = .ok (.aload_n 0, 1) := by decide +kernel
theorem dX12_crosses_141 : decode cX12_crosses 141 = .ok (.iload_n 1, 1) := by decide +kernel
theorem dX12_crosses_142 : decode cX12_crosses 142 = .ok (.iload_n 2, 1) := by decide +kernel
theorem dX12_crosses_143 : decode cX12_crosses 143 = .ok (.iload 4, 2) := by decide +kernel
theorem dX12_crosses_145 : decode cX12_crosses 145 = .ok (.invokevirtual 284, 3) := by decide +kernel
theorem dX12_crosses_148 : decode cX12_crosses 148 = .ok (.imul, 1) := by decide +kernel
theorem dX12_crosses_149 : decode cX12_crosses 149 = .ok (.ifCond .ge 27, 3) := by decide +kernel
theorem dX12_crosses_152 : decode cX12_crosses 152 = .ok (.aload_n 0, 1) := by decide +kernel
theorem dX12_crosses_153 : decode cX12_crosses 153 = .ok (.iload_n 3, 1) := by decide +kernel
theorem dX12_crosses_154 : decode cX12_crosses 154 = .ok (.iload 4, 2) := by decide +kernel
theorem dX12_crosses_156 : decode cX12_crosses 156 = .ok (.iload_n 1, 1) := by decide +kernel
theorem dX12_crosses_157 : decode cX12_crosses 157 = .ok (.invokevirtual 284, 3) := by decide +kernel
theorem dX12_crosses_160 : decode cX12_crosses 160 = .ok (.aload_n 0, 1) := by decide +kernel
theorem dX12_crosses_161 : decode cX12_crosses 161 = .ok (.iload_n 3, 1) := by decide +kernel
theorem dX12_crosses_162 : decode cX12_crosses 162 = .ok (.iload 4, 2) := by decide +kernel
theorem dX12_crosses_164 : decode cX12_crosses 164 = .ok (.iload_n 2, 1) := by decide +kernel
theorem dX12_crosses_165 : decode cX12_crosses 165 = .ok (.invokevirtual 284, 3) := by decide +kernel
theorem dX12_crosses_168 : decode cX12_crosses 168 = .ok (.imul, 1) := by decide +kernel
theorem dX12_crosses_169 : decode cX12_crosses 169 = .ok (.ifCond .ge 7, 3) := by decide +kernel
theorem dX12_crosses_172 : decode cX12_crosses 172 = .ok (.iconst 1, 1) := by decide +kernel
theorem dX12_crosses_173 : decode cX12_crosses 173 = .ok (.goto 4, 3) := by decide +kernel
theorem dX12_crosses_125 : decode cX12_crosses 125 = .ok (.iconst 0, 1) := by decide +kernel
theorem dX12_crosses_0 : decode cX12_crosses 0 = .ok (.aload_n 0, 1) := by decide +kernel
theorem dX12_crosses_1 : decode cX12_crosses 1 = .ok (.iload_n 1, 1) := by decide +kernel
theorem dX12_crosses_2 : decode cX12_crosses 2 = .ok (.invokevirtual 83, 3) := by decide +kernel
theorem dX12_crosses_5 : decode cX12_crosses 5 = .ok (.ifCond .eq 39, 3) := by decide +kernel
theorem dX12_crosses_8 : decode cX12_crosses 8 = .ok (.aload_n 0, 1) := by decide +kernel
theorem dX12_crosses_9 : decode cX12_crosses 9 = .ok (.iload_n 2, 1) := by decide +kernel
theorem dX12_crosses_10 : decode cX12_crosses 10 = .ok (.invokevirtual 83, 3) := by decide +kernel
theorem dX12_crosses_13 : decode cX12_crosses 13 = .ok (.ifCond .eq 31, 3) := by decide +kernel
theorem dX12_crosses_16 : decode cX12_crosses 16 = .ok (.aload_n 0, 1) := by decide +kernel
theorem dX12_crosses_17 : decode cX12_crosses 17 = .ok (.iload_n 3, 1) := by decide +kernel
theorem dX12_crosses_18 : decode cX12_crosses 18 = .ok (.invokevirtual 83, 3) := by decide +kernel
theorem dX12_crosses_21 : decode cX12_crosses 21 = .ok (.ifCond .eq 23, 3) := by decide +kernel
theorem dX12_crosses_24 : decode cX12_crosses 24 = .ok (.aload_n 0, 1) := by decide +kernel
theorem dX12_crosses_25 : decode cX12_crosses 25 = .ok (.iload 4, 2) := by decide +kernel
theorem dX12_crosses_27 : decode cX12_crosses 27 = .ok (.invokevirtual 83, 3) := by decide +kernel
theorem dX12_crosses_30 : decode cX12_crosses 30 = .ok (.ifCond .eq 14, 3) := by decide +kernel
theorem dX12_crosses_33 : decode cX12_crosses 33 = .ok (.iload_n 1, 1) := by decide +kernel
theorem dX12_crosses_34 : decode cX12_crosses 34 = .ok (.iload_n 3, 1) := by decide +kernel
theorem dX12_crosses_35 : decode cX12_crosses 35 = .ok (.if_icmp .eq 9, 3) := by decide +kernel
theorem dX12_crosses_38 : decode cX12_crosses 38 = .ok (.iload_n 2, 1) := by decide +kernel
theorem dX12_crosses_39 : decode cX12_crosses 39 = .ok (.iload 4, 2) := by decide +kernel
theorem dX12_crosses_41 : decode cX12_crosses 41 = .ok (.if_icmp .ne 9, 3) := by decide +kernel
theorem dX12_crosses_50 : decode cX12_crosses 50 = .ok (.aload_n 0, 1) := by decide +kernel
theorem dX12_crosses_51 : decode cX12_crosses 51 = .ok (.iload_n 1, 1) := by decide +kernel
theorem dX12_crosses_52 : decode cX12_crosses 52 = .ok (.iload_n 2, 1) := by decide +kernel
theorem dX12_crosses_53 : decode cX12_crosses 53 = .ok (.invokevirtual 278, 3) := by decide +kernel
theorem dX12_crosses_56 : decode cX12_crosses 56 = .ok (.ifCond .ne 13, 3) := by decide +kernel
theorem dX12_crosses_59 : decode cX12_crosses 59 = .ok (.aload_n 0, 1) := by decide +kernel
theorem dX12_crosses_60 : decode cX12_crosses 60 = .ok (.iload_n 3, 1) := by decide +kernel
theorem dX12_crosses_61 : decode cX12_crosses 61 = .ok (.iload 4, 2) := by decide +kernel
theorem dX12_crosses_63 : decode cX12_crosses 63 = .ok (.invokevirtual 278, 3) := by decide +kernel
theorem dX12_crosses_66 : decode cX12_crosses 66 = .ok (.ifCond .eq 9, 3) := by decide +kernel
theorem dX12_crosses_75 : decode cX12_crosses 75 = .ok (.aload_n 0, 1) := by decide +kernel
theorem dX12_crosses_76 : decode cX12_crosses 76 = .ok (.iload_n 1, 1) := by decide +kernel
theorem dX12_crosses_77 : decode cX12_crosses 77 = .ok (.iload_n 2, 1) := by decide +kernel
theorem dX12_crosses_78 : decode cX12_crosses 78 = .ok (.iconst 0, 1) := by decide +kernel
theorem dX12_crosses_79 : decode cX12_crosses 79 = .ok (.invokevirtual 281, 3) := by decide +kernel
theorem dX12_crosses_82 : decode cX12_crosses 82 = .ok (.iconst 3, 1) := by decide +kernel
theorem dX12_crosses_83 : decode cX12_crosses 83 = .ok (.if_icmp .ne 42, 3) := by decide +kernel
theorem dX12_crosses_86 : decode cX12_crosses 86 = .ok (.aload_n 0, 1) := by decide +kernel
theorem dX12_crosses_87 : decode cX12_crosses 87 = .ok (.iload_n 3, 1) := by decide +kernel
theorem dX12_crosses_88 : decode cX12_crosses 88 = .ok (.iload 4, 2) := by decide +kernel
theorem dX12_crosses_90 : decode cX12_crosses 90 = .ok (.iconst 0, 1) := by decide +kernel
theorem dX12_crosses_91 : decode cX12_crosses 91 = .ok (.invokevirtual 281, 3) := by decide +kernel
theorem dX12_crosses_94 : decode cX12_crosses 94 = .ok (.iconst 3, 1) := by decide +kernel
theorem dX12_crosses_95 : decode cX12_crosses 95 = .ok (.if_icmp .ne 30, 3) := by decide +kernel
theorem dX12_crosses_98 : decode cX12_crosses 98 = .ok (.aload_n 0, 1) := by decide +kernel
theorem dX12_crosses_99 : decode cX12_crosses 99 = .ok (.iload_n 1, 1) := by decide +kernel
theorem dX12_crosses_100 : decode cX12_crosses 100 = .ok (.iload 4, 2) := by decide +kernel
theorem dX12_crosses_102 : decode cX12_crosses 102 = .ok (.iconst 0, 1) := by decide +kernel
theorem dX12_crosses_103 : decode cX12_crosses 103 = .ok (.invokevirtual 281, 3) := by decide +kernel
theorem dX12_crosses_106 : decode cX12_crosses 106 = .ok (.iconst 2, 1) := by decide +kernel
theorem dX12_crosses_107 : decode cX12_crosses 107 = .ok (.if_icmp .ge 18, 3) := by decide +kernel
theorem dX12_crosses_110 : decode cX12_crosses 110 = .ok (.aload_n 0, 1) := by decide +kernel
theorem dX12_crosses_111 : decode cX12_crosses 111 = .ok (.iload_n 3, 1) := by decide +kernel
theorem dX12_crosses_112 : decode cX12_crosses 112 = .ok (.iload_n 2, 1) := by decide +kernel
theorem dX12_crosses_113 : decode cX12_crosses 113 = .ok (.iconst 0, 1) := by decide +kernel
theorem dX12_crosses_114 : decode cX12_crosses 114 = .ok (.invokevirtual 281, 3) := by decide +kernel
theorem dX12_crosses_117 : decode cX12_crosses 117 = .ok (.iconst 2, 1) := by decide +kernel
theorem dX12_crosses_118 : decode cX12_crosses 118 = .ok (.if_icmp .ge 7, 3) := by decide +kernel
theorem dX12_crosses_121 : decode cX12_crosses 121 = .ok (.iconst 1, 1) := by decide +kernel
theorem dX12_crosses_122 : decode cX12_crosses 122 = .ok (.goto 4, 3) := by decide +kernel
def D_X12_crosses_44 (N : Nat) (h : mh_H) (l0 : Nat) : Option (Int32 × mh_H) :=
  kO h 12 l0 <|
  (D_X12_error N h l0 (1 : Int32)).bind fun q1 =>
  some (q1.1, q1.2)
set_option maxHeartbeats 4000000 in
set_option maxRecDepth 100000 in
theorem T_X12_crosses_44 {P : mh_E → Prop} {N d : Nat} (hd : 5 ≤ d) {z : (Int32 × mh_H)} {h : mh_H} {l0 : Nat} (hq : D_X12_crosses_44 N h l0 = some z) : mh_go P d mX12_crosses 44 [some (.ref l0), none, none, none, none, none] [] h (some (.int z.1)) z.2 := by
  unfold D_X12_crosses_44 at hq
  refine st_aload_n (pc := 44) dX12_crosses_44 rfl ?_
  refine st_iconst (pc := 45) (v := (1 : Int32)) dX12_crosses_45 rfl ?_
  obtain ⟨⟨hbq1, hkq1⟩, hq⟩ := mh_oi hq
  obtain ⟨q1, e1, hq⟩ := mh_ob hq
  refine st_invV (pc := 46) (ci := 12) (vs := [.int (1 : Int32)]) (rest := []) (st2 := [.int q1.1]) dX12_crosses_46 okX12_error (by decide) hkq1 hbq1 wd_1274 wd_1276 wp_37 pdX12_error rfl rfl rfl rfl (Nat.le_trans (by decide) hd) (Nat.le_of_ble_eq_true rfl) (T_X12_error (Nat.le_refl _) e1) rfl ?_
  exact bd_iret (pc := 49) hq dX12_crosses_49 rfl
def D_X12_crosses_69 (N : Nat) (h : mh_H) (l0 : Nat) : Option (Int32 × mh_H) :=
  kO h 12 l0 <|
  (D_X12_error N h l0 (5 : Int32)).bind fun q1 =>
  some (q1.1, q1.2)
set_option maxHeartbeats 4000000 in
set_option maxRecDepth 100000 in
theorem T_X12_crosses_69 {P : mh_E → Prop} {N d : Nat} (hd : 5 ≤ d) {z : (Int32 × mh_H)} {h : mh_H} {l0 : Nat} (hq : D_X12_crosses_69 N h l0 = some z) : mh_go P d mX12_crosses 69 [some (.ref l0), none, none, none, none, none] [] h (some (.int z.1)) z.2 := by
  unfold D_X12_crosses_69 at hq
  refine st_aload_n (pc := 69) dX12_crosses_69 rfl ?_
  refine st_iconst (pc := 70) (v := (5 : Int32)) dX12_crosses_70 rfl ?_
  obtain ⟨⟨hbq1, hkq1⟩, hq⟩ := mh_oi hq
  obtain ⟨q1, e1, hq⟩ := mh_ob hq
  refine st_invV (pc := 71) (ci := 12) (vs := [.int (5 : Int32)]) (rest := []) (st2 := [.int q1.1]) dX12_crosses_71 okX12_error (by decide) hkq1 hbq1 wd_1274 wd_1276 wp_37 pdX12_error rfl rfl rfl rfl (Nat.le_trans (by decide) hd) (Nat.le_of_ble_eq_true rfl) (T_X12_error (Nat.le_refl _) e1) rfl ?_
  exact bd_iret (pc := 74) hq dX12_crosses_74 rfl
def D_X12_crosses_126 (N : Nat) (h : mh_H) (l0 : Nat) (l1 : Int32) (l2 : Int32) (l3 : Int32) (l4 : Int32) (s0 : Int32) : Option (Int32 × mh_H) :=
  if s0 = 0 then (some ((0 : Int32), h))
  else (kO h 12 l0 <|
  (D_X12_side N h l0 l1 l2 l3).bind fun q1 =>
  kO q1.2 12 l0 <|
  (D_X12_side N q1.2 l0 l1 l2 l4).bind fun q2 =>
  if 0 ≤ (q1.1 * q2.1) then (some ((0 : Int32), q2.2))
  else (kO q2.2 12 l0 <|
  (D_X12_side N q2.2 l0 l3 l4 l1).bind fun q3 =>
  kO q3.2 12 l0 <|
  (D_X12_side N q3.2 l0 l3 l4 l2).bind fun q4 =>
  if 0 ≤ (q3.1 * q4.1) then (some ((0 : Int32), q4.2))
  else (some ((1 : Int32), q4.2))))
set_option maxHeartbeats 4000000 in
set_option maxRecDepth 100000 in
theorem T_X12_crosses_126 {P : mh_E → Prop} {N d : Nat} (hd : 5 ≤ d) {z : (Int32 × mh_H)} {h : mh_H} {l0 : Nat} {l1 : Int32} {l2 : Int32} {l3 : Int32} {l4 : Int32} {s0 : Int32} (hq : D_X12_crosses_126 N h l0 l1 l2 l3 l4 s0 = some z) : mh_go P d mX12_crosses 126 [some (.ref l0), some (.int l1), some (.int l2), some (.int l3), some (.int l4), none] [.int s0] h (some (.int z.1)) z.2 := by
  unfold D_X12_crosses_126 at hq
  refine st_istore (pc := 126) (lv' := [some (.ref l0), some (.int l1), some (.int l2), some (.int l3), some (.int l4), some (.int s0)]) dX12_crosses_126 rfl (by decide) rfl ?_
  refine st_iload (pc := 128) dX12_crosses_128 rfl ?_
  refine bd_if_eq (pc := 130) (tgt := 176) hq dX12_crosses_130 (by decide) (fun _ hq => ?_) (fun _ hq => ?_)
  ·
    refine st_iconst (pc := 176) (v := (0 : Int32)) dX12_crosses_176 rfl ?_
    exact bd_iret (pc := 177) hq dX12_crosses_177 rfl
  ·
    refine st_aload_n (pc := 133) dX12_crosses_133 rfl ?_
    refine st_iload_n (pc := 134) dX12_crosses_134 rfl ?_
    refine st_iload_n (pc := 135) dX12_crosses_135 rfl ?_
    refine st_iload_n (pc := 136) dX12_crosses_136 rfl ?_
    obtain ⟨⟨hbq1, hkq1⟩, hq⟩ := mh_oi hq
    obtain ⟨q1, e1, hq⟩ := mh_ob hq
    refine st_invV (pc := 137) (ci := 12) (vs := [.int l1, .int l2, .int l3]) (rest := []) (st2 := [.int q1.1]) dX12_crosses_137 okX12_side (by decide) hkq1 hbq1 wd_1601 wd_1603 wp_79 pdX12_side rfl rfl rfl rfl (Nat.le_trans (by decide) hd) (Nat.le_of_ble_eq_true rfl) (T_X12_side (Nat.le_refl _) e1) rfl ?_
    refine st_aload_n (pc := 140) dX12_crosses_140 rfl ?_
    refine st_iload_n (pc := 141) dX12_crosses_141 rfl ?_
    refine st_iload_n (pc := 142) dX12_crosses_142 rfl ?_
    refine st_iload (pc := 143) dX12_crosses_143 rfl ?_
    obtain ⟨⟨hbq2, hkq2⟩, hq⟩ := mh_oi hq
    obtain ⟨q2, e2, hq⟩ := mh_ob hq
    refine st_invV (pc := 145) (ci := 12) (vs := [.int l1, .int l2, .int l4]) (rest := [.int q1.1]) (st2 := [.int q2.1, .int q1.1]) dX12_crosses_145 okX12_side (by decide) hkq2 hbq2 wd_1601 wd_1603 wp_79 pdX12_side rfl rfl rfl rfl (Nat.le_trans (by decide) hd) (Nat.le_of_ble_eq_true rfl) (T_X12_side (Nat.le_refl _) e2) rfl ?_
    refine st_imul (pc := 148) dX12_crosses_148 ?_
    refine bd_if_ge (pc := 149) (tgt := 176) hq dX12_crosses_149 (by decide) (fun _ hq => ?_) (fun _ hq => ?_)
    ·
      refine st_iconst (pc := 176) (v := (0 : Int32)) dX12_crosses_176 rfl ?_
      exact bd_iret (pc := 177) hq dX12_crosses_177 rfl
    ·
      refine st_aload_n (pc := 152) dX12_crosses_152 rfl ?_
      refine st_iload_n (pc := 153) dX12_crosses_153 rfl ?_
      refine st_iload (pc := 154) dX12_crosses_154 rfl ?_
      refine st_iload_n (pc := 156) dX12_crosses_156 rfl ?_
      obtain ⟨⟨hbq3, hkq3⟩, hq⟩ := mh_oi hq
      obtain ⟨q3, e3, hq⟩ := mh_ob hq
      refine st_invV (pc := 157) (ci := 12) (vs := [.int l3, .int l4, .int l1]) (rest := []) (st2 := [.int q3.1]) dX12_crosses_157 okX12_side (by decide) hkq3 hbq3 wd_1601 wd_1603 wp_79 pdX12_side rfl rfl rfl rfl (Nat.le_trans (by decide) hd) (Nat.le_of_ble_eq_true rfl) (T_X12_side (Nat.le_refl _) e3) rfl ?_
      refine st_aload_n (pc := 160) dX12_crosses_160 rfl ?_
      refine st_iload_n (pc := 161) dX12_crosses_161 rfl ?_
      refine st_iload (pc := 162) dX12_crosses_162 rfl ?_
      refine st_iload_n (pc := 164) dX12_crosses_164 rfl ?_
      obtain ⟨⟨hbq4, hkq4⟩, hq⟩ := mh_oi hq
      obtain ⟨q4, e4, hq⟩ := mh_ob hq
      refine st_invV (pc := 165) (ci := 12) (vs := [.int l3, .int l4, .int l2]) (rest := [.int q3.1]) (st2 := [.int q4.1, .int q3.1]) dX12_crosses_165 okX12_side (by decide) hkq4 hbq4 wd_1601 wd_1603 wp_79 pdX12_side rfl rfl rfl rfl (Nat.le_trans (by decide) hd) (Nat.le_of_ble_eq_true rfl) (T_X12_side (Nat.le_refl _) e4) rfl ?_
      refine st_imul (pc := 168) dX12_crosses_168 ?_
      refine bd_if_ge (pc := 169) (tgt := 176) hq dX12_crosses_169 (by decide) (fun _ hq => ?_) (fun _ hq => ?_)
      ·
        refine st_iconst (pc := 176) (v := (0 : Int32)) dX12_crosses_176 rfl ?_
        exact bd_iret (pc := 177) hq dX12_crosses_177 rfl
      ·
        refine st_iconst (pc := 172) (v := (1 : Int32)) dX12_crosses_172 rfl ?_
        refine st_goto (pc := 173) (tgt := 177) dX12_crosses_173 (by decide) ?_
        exact bd_iret (pc := 177) hq dX12_crosses_177 rfl
def D_X12_crosses_125 (N : Nat) (h : mh_H) (l0 : Nat) (l1 : Int32) (l2 : Int32) (l3 : Int32) (l4 : Int32) : Option (Int32 × mh_H) :=
  D_X12_crosses_126 N h l0 l1 l2 l3 l4 (0 : Int32)
set_option maxHeartbeats 4000000 in
set_option maxRecDepth 100000 in
theorem T_X12_crosses_125 {P : mh_E → Prop} {N d : Nat} (hd : 5 ≤ d) {z : (Int32 × mh_H)} {h : mh_H} {l0 : Nat} {l1 : Int32} {l2 : Int32} {l3 : Int32} {l4 : Int32} (hq : D_X12_crosses_125 N h l0 l1 l2 l3 l4 = some z) : mh_go P d mX12_crosses 125 [some (.ref l0), some (.int l1), some (.int l2), some (.int l3), some (.int l4), none] [] h (some (.int z.1)) z.2 := by
  unfold D_X12_crosses_125 at hq
  refine st_iconst (pc := 125) (v := (0 : Int32)) dX12_crosses_125 rfl ?_
  exact T_X12_crosses_126 hd hq
def D_X12_crosses (N : Nat) (h : mh_H) (l0 : Nat) (l1 : Int32) (l2 : Int32) (l3 : Int32) (l4 : Int32) : Option (Int32 × mh_H) :=
  kO h 12 l0 <|
  (D_X12_isJoint N h l0 l1).bind fun q1 =>
  if q1.1 = 0 then (D_X12_crosses_44 N q1.2 l0)
  else (kO q1.2 12 l0 <|
  (D_X12_isJoint N q1.2 l0 l2).bind fun q2 =>
  if q2.1 = 0 then (D_X12_crosses_44 N q2.2 l0)
  else (kO q2.2 12 l0 <|
  (D_X12_isJoint N q2.2 l0 l3).bind fun q3 =>
  if q3.1 = 0 then (D_X12_crosses_44 N q3.2 l0)
  else (kO q3.2 12 l0 <|
  (D_X12_isJoint N q3.2 l0 l4).bind fun q4 =>
  if q4.1 = 0 then (D_X12_crosses_44 N q4.2 l0)
  else (if l1 = l3 then (D_X12_crosses_44 N q4.2 l0)
  else (if l2 = l4 then (D_X12_crosses_44 N q4.2 l0)
  else (kO q4.2 12 l0 <|
  (D_X12_isWrongPair N q4.2 l0 l1 l2).bind fun q5 =>
  if q5.1 = 0 then (kO q5.2 12 l0 <|
  (D_X12_isWrongPair N q5.2 l0 l3 l4).bind fun q6 =>
  if q6.1 = 0 then (kO q6.2 12 l0 <|
  (D_X12_said N q6.2 l0 l1 l2 (0 : Int32)).bind fun q7 =>
  if q7.1 = (3 : Int32) then (kO q7.2 12 l0 <|
  (D_X12_said N q7.2 l0 l3 l4 (0 : Int32)).bind fun q8 =>
  if q8.1 = (3 : Int32) then (kO q8.2 12 l0 <|
  (D_X12_said N q8.2 l0 l1 l4 (0 : Int32)).bind fun q9 =>
  if (2 : Int32) ≤ q9.1 then (D_X12_crosses_125 N q9.2 l0 l1 l2 l3 l4)
  else (kO q9.2 12 l0 <|
  (D_X12_said N q9.2 l0 l3 l2 (0 : Int32)).bind fun q10 =>
  if (2 : Int32) ≤ q10.1 then (D_X12_crosses_125 N q10.2 l0 l1 l2 l3 l4)
  else (D_X12_crosses_126 N q10.2 l0 l1 l2 l3 l4 (1 : Int32))))
  else (D_X12_crosses_125 N q8.2 l0 l1 l2 l3 l4))
  else (D_X12_crosses_125 N q7.2 l0 l1 l2 l3 l4))
  else (D_X12_crosses_69 N q6.2 l0))
  else (D_X12_crosses_69 N q5.2 l0)))))))
set_option maxHeartbeats 4000000 in
set_option maxRecDepth 100000 in
theorem T_X12_crosses {P : mh_E → Prop} {N d : Nat} (hd : 5 ≤ d) {z : (Int32 × mh_H)} {h : mh_H} {l0 : Nat} {l1 : Int32} {l2 : Int32} {l3 : Int32} {l4 : Int32} (hq : D_X12_crosses N h l0 l1 l2 l3 l4 = some z) : mh_go P d mX12_crosses 0 [some (.ref l0), some (.int l1), some (.int l2), some (.int l3), some (.int l4), none] [] h (some (.int z.1)) z.2 := by
  unfold D_X12_crosses at hq
  refine st_aload_n (pc := 0) dX12_crosses_0 rfl ?_
  refine st_iload_n (pc := 1) dX12_crosses_1 rfl ?_
  obtain ⟨⟨hbq1, hkq1⟩, hq⟩ := mh_oi hq
  obtain ⟨q1, e1, hq⟩ := mh_ob hq
  refine st_invV (pc := 2) (ci := 12) (vs := [.int l1]) (rest := []) (st2 := [.int q1.1]) dX12_crosses_2 okX12_isJoint (by decide) hkq1 hbq1 wd_1286 wd_1288 wp_38 pdX12_isJoint rfl rfl rfl rfl (Nat.le_trans (by decide) hd) (Nat.le_of_ble_eq_true rfl) (T_X12_isJoint (Nat.le_refl _) e1) rfl ?_
  refine bd_if_eq (pc := 5) (tgt := 44) hq dX12_crosses_5 (by decide) (fun _ hq => ?_) (fun _ hq => ?_)
  ·
    refine st_lesS (lv' := [some (.ref l0), none, none, none, none, none]) ⟨Or.inr rfl, Or.inl rfl, Or.inl rfl, Or.inl rfl, Or.inl rfl, Or.inr rfl, trivial⟩ ?_
    exact T_X12_crosses_44 hd hq
  ·
    refine st_aload_n (pc := 8) dX12_crosses_8 rfl ?_
    refine st_iload_n (pc := 9) dX12_crosses_9 rfl ?_
    obtain ⟨⟨hbq2, hkq2⟩, hq⟩ := mh_oi hq
    obtain ⟨q2, e2, hq⟩ := mh_ob hq
    refine st_invV (pc := 10) (ci := 12) (vs := [.int l2]) (rest := []) (st2 := [.int q2.1]) dX12_crosses_10 okX12_isJoint (by decide) hkq2 hbq2 wd_1286 wd_1288 wp_38 pdX12_isJoint rfl rfl rfl rfl (Nat.le_trans (by decide) hd) (Nat.le_of_ble_eq_true rfl) (T_X12_isJoint (Nat.le_refl _) e2) rfl ?_
    refine bd_if_eq (pc := 13) (tgt := 44) hq dX12_crosses_13 (by decide) (fun _ hq => ?_) (fun _ hq => ?_)
    ·
      refine st_lesS (lv' := [some (.ref l0), none, none, none, none, none]) ⟨Or.inr rfl, Or.inl rfl, Or.inl rfl, Or.inl rfl, Or.inl rfl, Or.inr rfl, trivial⟩ ?_
      exact T_X12_crosses_44 hd hq
    ·
      refine st_aload_n (pc := 16) dX12_crosses_16 rfl ?_
      refine st_iload_n (pc := 17) dX12_crosses_17 rfl ?_
      obtain ⟨⟨hbq3, hkq3⟩, hq⟩ := mh_oi hq
      obtain ⟨q3, e3, hq⟩ := mh_ob hq
      refine st_invV (pc := 18) (ci := 12) (vs := [.int l3]) (rest := []) (st2 := [.int q3.1]) dX12_crosses_18 okX12_isJoint (by decide) hkq3 hbq3 wd_1286 wd_1288 wp_38 pdX12_isJoint rfl rfl rfl rfl (Nat.le_trans (by decide) hd) (Nat.le_of_ble_eq_true rfl) (T_X12_isJoint (Nat.le_refl _) e3) rfl ?_
      refine bd_if_eq (pc := 21) (tgt := 44) hq dX12_crosses_21 (by decide) (fun _ hq => ?_) (fun _ hq => ?_)
      ·
        refine st_lesS (lv' := [some (.ref l0), none, none, none, none, none]) ⟨Or.inr rfl, Or.inl rfl, Or.inl rfl, Or.inl rfl, Or.inl rfl, Or.inr rfl, trivial⟩ ?_
        exact T_X12_crosses_44 hd hq
      ·
        refine st_aload_n (pc := 24) dX12_crosses_24 rfl ?_
        refine st_iload (pc := 25) dX12_crosses_25 rfl ?_
        obtain ⟨⟨hbq4, hkq4⟩, hq⟩ := mh_oi hq
        obtain ⟨q4, e4, hq⟩ := mh_ob hq
        refine st_invV (pc := 27) (ci := 12) (vs := [.int l4]) (rest := []) (st2 := [.int q4.1]) dX12_crosses_27 okX12_isJoint (by decide) hkq4 hbq4 wd_1286 wd_1288 wp_38 pdX12_isJoint rfl rfl rfl rfl (Nat.le_trans (by decide) hd) (Nat.le_of_ble_eq_true rfl) (T_X12_isJoint (Nat.le_refl _) e4) rfl ?_
        refine bd_if_eq (pc := 30) (tgt := 44) hq dX12_crosses_30 (by decide) (fun _ hq => ?_) (fun _ hq => ?_)
        ·
          refine st_lesS (lv' := [some (.ref l0), none, none, none, none, none]) ⟨Or.inr rfl, Or.inl rfl, Or.inl rfl, Or.inl rfl, Or.inl rfl, Or.inr rfl, trivial⟩ ?_
          exact T_X12_crosses_44 hd hq
        ·
          refine st_iload_n (pc := 33) dX12_crosses_33 rfl ?_
          refine st_iload_n (pc := 34) dX12_crosses_34 rfl ?_
          refine bd_icmp_eq (pc := 35) (tgt := 44) hq dX12_crosses_35 (by decide) (fun _ hq => ?_) (fun _ hq => ?_)
          ·
            refine st_lesS (lv' := [some (.ref l0), none, none, none, none, none]) ⟨Or.inr rfl, Or.inl rfl, Or.inl rfl, Or.inl rfl, Or.inl rfl, Or.inr rfl, trivial⟩ ?_
            exact T_X12_crosses_44 hd hq
          ·
            refine st_iload_n (pc := 38) dX12_crosses_38 rfl ?_
            refine st_iload (pc := 39) dX12_crosses_39 rfl ?_
            refine bd_icmp_ne (pc := 41) (tgt := 50) hq dX12_crosses_41 (by decide) (fun _ hq => ?_) (fun _ hq => ?_)
            ·
              refine st_lesS (lv' := [some (.ref l0), none, none, none, none, none]) ⟨Or.inr rfl, Or.inl rfl, Or.inl rfl, Or.inl rfl, Or.inl rfl, Or.inr rfl, trivial⟩ ?_
              exact T_X12_crosses_44 hd hq
            ·
              refine st_aload_n (pc := 50) dX12_crosses_50 rfl ?_
              refine st_iload_n (pc := 51) dX12_crosses_51 rfl ?_
              refine st_iload_n (pc := 52) dX12_crosses_52 rfl ?_
              obtain ⟨⟨hbq5, hkq5⟩, hq⟩ := mh_oi hq
              obtain ⟨q5, e5, hq⟩ := mh_ob hq
              refine st_invV (pc := 53) (ci := 12) (vs := [.int l1, .int l2]) (rest := []) (st2 := [.int q5.1]) dX12_crosses_53 okX12_isWrongPair (by decide) hkq5 hbq5 wd_1573 wd_1575 wp_76 pdX12_isWrongPair rfl rfl rfl rfl (Nat.le_trans (by decide) hd) (Nat.le_of_ble_eq_true rfl) (T_X12_isWrongPair (Nat.le_refl _) e5) rfl ?_
              refine bd_if_ne (pc := 56) (tgt := 69) hq dX12_crosses_56 (by decide) (fun _ hq => ?_) (fun _ hq => ?_)
              ·
                refine st_aload_n (pc := 59) dX12_crosses_59 rfl ?_
                refine st_iload_n (pc := 60) dX12_crosses_60 rfl ?_
                refine st_iload (pc := 61) dX12_crosses_61 rfl ?_
                obtain ⟨⟨hbq6, hkq6⟩, hq⟩ := mh_oi hq
                obtain ⟨q6, e6, hq⟩ := mh_ob hq
                refine st_invV (pc := 63) (ci := 12) (vs := [.int l3, .int l4]) (rest := []) (st2 := [.int q6.1]) dX12_crosses_63 okX12_isWrongPair (by decide) hkq6 hbq6 wd_1573 wd_1575 wp_76 pdX12_isWrongPair rfl rfl rfl rfl (Nat.le_trans (by decide) hd) (Nat.le_of_ble_eq_true rfl) (T_X12_isWrongPair (Nat.le_refl _) e6) rfl ?_
                refine bd_if_eq (pc := 66) (tgt := 75) hq dX12_crosses_66 (by decide) (fun _ hq => ?_) (fun _ hq => ?_)
                ·
                  refine st_aload_n (pc := 75) dX12_crosses_75 rfl ?_
                  refine st_iload_n (pc := 76) dX12_crosses_76 rfl ?_
                  refine st_iload_n (pc := 77) dX12_crosses_77 rfl ?_
                  refine st_iconst (pc := 78) (v := (0 : Int32)) dX12_crosses_78 rfl ?_
                  obtain ⟨⟨hbq7, hkq7⟩, hq⟩ := mh_oi hq
                  obtain ⟨q7, e7, hq⟩ := mh_ob hq
                  refine st_invV (pc := 79) (ci := 12) (vs := [.int l1, .int l2, .int (0 : Int32)]) (rest := []) (st2 := [.int q7.1]) dX12_crosses_79 okX12_said (by decide) hkq7 hbq7 wd_1577 wd_1579 wp_77 pdX12_said rfl rfl rfl rfl (Nat.le_trans (by decide) hd) (Nat.le_of_ble_eq_true rfl) (T_X12_said (Nat.le_refl _) e7) rfl ?_
                  refine st_iconst (pc := 82) (v := (3 : Int32)) dX12_crosses_82 rfl ?_
                  refine bd_icmp_ne (pc := 83) (tgt := 125) hq dX12_crosses_83 (by decide) (fun _ hq => ?_) (fun _ hq => ?_)
                  ·
                    refine st_aload_n (pc := 86) dX12_crosses_86 rfl ?_
                    refine st_iload_n (pc := 87) dX12_crosses_87 rfl ?_
                    refine st_iload (pc := 88) dX12_crosses_88 rfl ?_
                    refine st_iconst (pc := 90) (v := (0 : Int32)) dX12_crosses_90 rfl ?_
                    obtain ⟨⟨hbq8, hkq8⟩, hq⟩ := mh_oi hq
                    obtain ⟨q8, e8, hq⟩ := mh_ob hq
                    refine st_invV (pc := 91) (ci := 12) (vs := [.int l3, .int l4, .int (0 : Int32)]) (rest := []) (st2 := [.int q8.1]) dX12_crosses_91 okX12_said (by decide) hkq8 hbq8 wd_1577 wd_1579 wp_77 pdX12_said rfl rfl rfl rfl (Nat.le_trans (by decide) hd) (Nat.le_of_ble_eq_true rfl) (T_X12_said (Nat.le_refl _) e8) rfl ?_
                    refine st_iconst (pc := 94) (v := (3 : Int32)) dX12_crosses_94 rfl ?_
                    refine bd_icmp_ne (pc := 95) (tgt := 125) hq dX12_crosses_95 (by decide) (fun _ hq => ?_) (fun _ hq => ?_)
                    ·
                      refine st_aload_n (pc := 98) dX12_crosses_98 rfl ?_
                      refine st_iload_n (pc := 99) dX12_crosses_99 rfl ?_
                      refine st_iload (pc := 100) dX12_crosses_100 rfl ?_
                      refine st_iconst (pc := 102) (v := (0 : Int32)) dX12_crosses_102 rfl ?_
                      obtain ⟨⟨hbq9, hkq9⟩, hq⟩ := mh_oi hq
                      obtain ⟨q9, e9, hq⟩ := mh_ob hq
                      refine st_invV (pc := 103) (ci := 12) (vs := [.int l1, .int l4, .int (0 : Int32)]) (rest := []) (st2 := [.int q9.1]) dX12_crosses_103 okX12_said (by decide) hkq9 hbq9 wd_1577 wd_1579 wp_77 pdX12_said rfl rfl rfl rfl (Nat.le_trans (by decide) hd) (Nat.le_of_ble_eq_true rfl) (T_X12_said (Nat.le_refl _) e9) rfl ?_
                      refine st_iconst (pc := 106) (v := (2 : Int32)) dX12_crosses_106 rfl ?_
                      refine bd_icmp_ge (pc := 107) (tgt := 125) hq dX12_crosses_107 (by decide) (fun _ hq => ?_) (fun _ hq => ?_)
                      ·
                        exact T_X12_crosses_125 hd hq
                      ·
                        refine st_aload_n (pc := 110) dX12_crosses_110 rfl ?_
                        refine st_iload_n (pc := 111) dX12_crosses_111 rfl ?_
                        refine st_iload_n (pc := 112) dX12_crosses_112 rfl ?_
                        refine st_iconst (pc := 113) (v := (0 : Int32)) dX12_crosses_113 rfl ?_
                        obtain ⟨⟨hbq10, hkq10⟩, hq⟩ := mh_oi hq
                        obtain ⟨q10, e10, hq⟩ := mh_ob hq
                        refine st_invV (pc := 114) (ci := 12) (vs := [.int l3, .int l2, .int (0 : Int32)]) (rest := []) (st2 := [.int q10.1]) dX12_crosses_114 okX12_said (by decide) hkq10 hbq10 wd_1577 wd_1579 wp_77 pdX12_said rfl rfl rfl rfl (Nat.le_trans (by decide) hd) (Nat.le_of_ble_eq_true rfl) (T_X12_said (Nat.le_refl _) e10) rfl ?_
                        refine st_iconst (pc := 117) (v := (2 : Int32)) dX12_crosses_117 rfl ?_
                        refine bd_icmp_ge (pc := 118) (tgt := 125) hq dX12_crosses_118 (by decide) (fun _ hq => ?_) (fun _ hq => ?_)
                        ·
                          exact T_X12_crosses_125 hd hq
                        ·
                          refine st_iconst (pc := 121) (v := (1 : Int32)) dX12_crosses_121 rfl ?_
                          refine st_goto (pc := 122) (tgt := 126) dX12_crosses_122 (by decide) ?_
                          exact T_X12_crosses_126 hd hq
                    ·
                      exact T_X12_crosses_125 hd hq
                  ·
                    exact T_X12_crosses_125 hd hq
                ·
                  refine st_lesS (lv' := [some (.ref l0), none, none, none, none, none]) ⟨Or.inr rfl, Or.inl rfl, Or.inl rfl, Or.inl rfl, Or.inl rfl, Or.inr rfl, trivial⟩ ?_
                  exact T_X12_crosses_69 hd hq
              ·
                refine st_lesS (lv' := [some (.ref l0), none, none, none, none, none]) ⟨Or.inr rfl, Or.inl rfl, Or.inl rfl, Or.inl rfl, Or.inl rfl, Or.inr rfl, trivial⟩ ?_
                exact T_X12_crosses_69 hd hq
-- HoleWaterModel.ones(I)I
theorem dX12_ones_4 : decode cX12_ones 4 = .ok (.iload_n 2, 1) := by decide +kernel
theorem dX12_ones_5 : decode cX12_ones 5 = .ok (.ifCond .eq 15, 3) := by decide +kernel
theorem dX12_ones_20 : decode cX12_ones 20 = .ok (.iload_n 1, 1) := by decide +kernel
theorem dX12_ones_21 : decode cX12_ones 21 = .ok (.ireturn, 1) := by decide +kernel
theorem dX12_ones_8 : decode cX12_ones 8 = .ok (.iinc 1 1, 3) := by decide +kernel
theorem dX12_ones_11 : decode cX12_ones 11 = .ok (.iload_n 2, 1) := by decide +kernel
theorem dX12_ones_12 : decode cX12_ones 12 = .ok (.iload_n 2, 1) := by decide +kernel
theorem dX12_ones_13 : decode cX12_ones 13 = .ok (.iconst 1, 1) := by decide +kernel
theorem dX12_ones_14 : decode cX12_ones 14 = .ok (.isub, 1) := by decide +kernel
theorem dX12_ones_15 : decode cX12_ones 15 = .ok (.iand, 1) := by decide +kernel
theorem dX12_ones_16 : decode cX12_ones 16 = .ok (.istore_n 2, 1) := by decide +kernel
theorem dX12_ones_17 : decode cX12_ones 17 = .ok (.goto (-13), 3) := by decide +kernel
theorem dX12_ones_0 : decode cX12_ones 0 = .ok (.iconst 0, 1) := by decide +kernel
theorem dX12_ones_1 : decode cX12_ones 1 = .ok (.istore_n 1, 1) := by decide +kernel
theorem dX12_ones_2 : decode cX12_ones 2 = .ok (.iload_n 0, 1) := by decide +kernel
theorem dX12_ones_3 : decode cX12_ones 3 = .ok (.istore_n 2, 1) := by decide +kernel
def D_X12_ones_4 (N : Nat) : Nat → mh_H → Int32 → Int32 → Option (Int32 × mh_H)
  | 0, _, _, _ => none
  | F + 1, h, l1, l2 =>
    if l2 = 0 then (some (l1, h))
    else ((D_X12_ones_4 N F) h (l1 + Int32.ofInt (1)) (l2 &&& (l2 - (1 : Int32))))
set_option maxHeartbeats 4000000 in
set_option maxRecDepth 100000 in
theorem T_X12_ones_4 {P : mh_E → Prop} {N d : Nat} (hd : 1 ≤ d) {z : (Int32 × mh_H)} : ∀ (F : Nat) (h : mh_H) (l1 : Int32) (l2 : Int32), D_X12_ones_4 N F h l1 l2 = some z → mh_go P d mX12_ones 4 [none, some (.int l1), some (.int l2)] [] h (some (.int z.1)) z.2 := by
  intro F
  induction F with
  | zero => intro h l1 l2 hq; rw [D_X12_ones_4] at hq; cases hq
  | succ F ih =>
    intro h l1 l2 hq
    rw [D_X12_ones_4] at hq
    refine st_iload_n (pc := 4) dX12_ones_4 rfl ?_
    refine bd_if_eq (pc := 5) (tgt := 20) hq dX12_ones_5 (by decide) (fun _ hq => ?_) (fun _ hq => ?_)
    ·
      refine st_iload_n (pc := 20) dX12_ones_20 rfl ?_
      exact bd_iret (pc := 21) hq dX12_ones_21 rfl
    ·
      refine st_iinc (pc := 8) (lv' := [none, some (.int (l1 + Int32.ofInt (1))), some (.int l2)]) dX12_ones_8 rfl rfl (by decide) rfl ?_
      refine st_iload_n (pc := 11) dX12_ones_11 rfl ?_
      refine st_iload_n (pc := 12) dX12_ones_12 rfl ?_
      refine st_iconst (pc := 13) (v := (1 : Int32)) dX12_ones_13 rfl ?_
      refine st_isub (pc := 14) dX12_ones_14 ?_
      refine st_iand (pc := 15) dX12_ones_15 ?_
      refine st_istore_n (pc := 16) (lv' := [none, some (.int (l1 + Int32.ofInt (1))), some (.int (l2 &&& (l2 - (1 : Int32))))]) dX12_ones_16 rfl (by decide) rfl ?_
      refine st_goto (pc := 17) (tgt := 4) dX12_ones_17 (by decide) ?_
      exact ih _ _ _ hq
def D_X12_ones (N : Nat) (h : mh_H) (l0 : Int32) : Option (Int32 × mh_H) :=
  D_X12_ones_4 N N h (0 : Int32) l0
set_option maxHeartbeats 4000000 in
set_option maxRecDepth 100000 in
theorem T_X12_ones {P : mh_E → Prop} {N d : Nat} (hd : 1 ≤ d) {z : (Int32 × mh_H)} {h : mh_H} {l0 : Int32} (hq : D_X12_ones N h l0 = some z) : mh_go P d mX12_ones 0 [some (.int l0), none, none] [] h (some (.int z.1)) z.2 := by
  unfold D_X12_ones at hq
  refine st_iconst (pc := 0) (v := (0 : Int32)) dX12_ones_0 rfl ?_
  refine st_istore_n (pc := 1) (lv' := [some (.int l0), some (.int (0 : Int32)), none]) dX12_ones_1 rfl (by decide) rfl ?_
  refine st_iload_n (pc := 2) dX12_ones_2 rfl ?_
  refine st_istore_n (pc := 3) (lv' := [some (.int l0), some (.int (0 : Int32)), some (.int l0)]) dX12_ones_3 rfl (by decide) rfl ?_
  refine st_lesS (lv' := [none, some (.int (0 : Int32)), some (.int l0)]) ⟨Or.inl rfl, Or.inr rfl, Or.inr rfl, trivial⟩ ?_
  exact T_X12_ones_4 hd N _ _ _ hq
-- HoleWaterModel.isWrongSet(II)I
theorem dX12_isWrongSet_64 : decode cX12_isWrongSet 64 = .ok (.istore_n 3, 1) := by decide +kernel
theorem dX12_isWrongSet_65 : decode cX12_isWrongSet 65 = .ok (.iinc 4 1, 3) := by decide +kernel
theorem dX12_isWrongSet_68 : decode cX12_isWrongSet 68 = .ok (.goto (-44), 3) := by decide +kernel
theorem dX12_isWrongSet_63 : decode cX12_isWrongSet 63 = .ok (.iconst 0, 1) := by decide +kernel
theorem dX12_isWrongSet_24 : decode cX12_isWrongSet 24 = .ok (.iload 4, 2) := by decide +kernel
theorem dX12_isWrongSet_26 : decode cX12_isWrongSet 26 = .ok (.aload_n 0, 1) := by decide +kernel
theorem dX12_isWrongSet_27 : decode cX12_isWrongSet 27 = .ok (.getfield 9, 3) := by decide +kernel
theorem dX12_isWrongSet_30 : decode cX12_isWrongSet 30 = .ok (.iconst 1, 1) := by decide +kernel
theorem dX12_isWrongSet_31 : decode cX12_isWrongSet 31 = .ok (.iaload, 1) := by decide +kernel
theorem dX12_isWrongSet_32 : decode cX12_isWrongSet 32 = .ok (.if_icmp .ge 39, 3) := by decide +kernel
theorem dX12_isWrongSet_71 : decode cX12_isWrongSet 71 = .ok (.iload_n 3, 1) := by decide +kernel
theorem dX12_isWrongSet_72 : decode cX12_isWrongSet 72 = .ok (.ireturn, 1) := by decide +kernel
theorem dX12_isWrongSet_35 : decode cX12_isWrongSet 35 = .ok (.iload_n 3, 1) := by decide +kernel
theorem dX12_isWrongSet_36 : decode cX12_isWrongSet 36 = .ok (.ifCond .ne 35, 3) := by decide +kernel
theorem dX12_isWrongSet_39 : decode cX12_isWrongSet 39 = .ok (.iload_n 1, 1) := by decide +kernel
theorem dX12_isWrongSet_40 : decode cX12_isWrongSet 40 = .ok (.iload 4, 2) := by decide +kernel
theorem dX12_isWrongSet_42 : decode cX12_isWrongSet 42 = .ok (.ishr, 1) := by decide +kernel
theorem dX12_isWrongSet_43 : decode cX12_isWrongSet 43 = .ok (.iconst 1, 1) := by decide +kernel
theorem dX12_isWrongSet_44 : decode cX12_isWrongSet 44 = .ok (.iand, 1) := by decide +kernel
theorem dX12_isWrongSet_45 : decode cX12_isWrongSet 45 = .ok (.iconst 1, 1) := by decide +kernel
theorem dX12_isWrongSet_46 : decode cX12_isWrongSet 46 = .ok (.if_icmp .ne 17, 3) := by decide +kernel
theorem dX12_isWrongSet_49 : decode cX12_isWrongSet 49 = .ok (.aload_n 0, 1) := by decide +kernel
theorem dX12_isWrongSet_50 : decode cX12_isWrongSet 50 = .ok (.iload 4, 2) := by decide +kernel
theorem dX12_isWrongSet_52 : decode cX12_isWrongSet 52 = .ok (.invokevirtual 75, 3) := by decide +kernel
theorem dX12_isWrongSet_55 : decode cX12_isWrongSet 55 = .ok (.iload_n 2, 1) := by decide +kernel
theorem dX12_isWrongSet_56 : decode cX12_isWrongSet 56 = .ok (.if_icmp .eq 7, 3) := by decide +kernel
theorem dX12_isWrongSet_59 : decode cX12_isWrongSet 59 = .ok (.iconst 5, 1) := by decide +kernel
theorem dX12_isWrongSet_60 : decode cX12_isWrongSet 60 = .ok (.goto 4, 3) := by decide +kernel
theorem dX12_isWrongSet_20 : decode cX12_isWrongSet 20 = .ok (.istore_n 3, 1) := by decide +kernel
theorem dX12_isWrongSet_21 : decode cX12_isWrongSet 21 = .ok (.iconst 0, 1) := by decide +kernel
theorem dX12_isWrongSet_22 : decode cX12_isWrongSet 22 = .ok (.istore 4, 2) := by decide +kernel
theorem dX12_isWrongSet_15 : decode cX12_isWrongSet 15 = .ok (.iconst 1, 1) := by decide +kernel
theorem dX12_isWrongSet_16 : decode cX12_isWrongSet 16 = .ok (.goto 4, 3) := by decide +kernel
theorem dX12_isWrongSet_0 : decode cX12_isWrongSet 0 = .ok (.iload_n 1, 1) := by decide +kernel
theorem dX12_isWrongSet_1 : decode cX12_isWrongSet 1 = .ok (.ifCond .lt 14, 3) := by decide +kernel
theorem dX12_isWrongSet_4 : decode cX12_isWrongSet 4 = .ok (.iload_n 1, 1) := by decide +kernel
theorem dX12_isWrongSet_5 : decode cX12_isWrongSet 5 = .ok (.aload_n 0, 1) := by decide +kernel
theorem dX12_isWrongSet_6 : decode cX12_isWrongSet 6 = .ok (.getfield 9, 3) := by decide +kernel
theorem dX12_isWrongSet_9 : decode cX12_isWrongSet 9 = .ok (.iconst 1, 1) := by decide +kernel
theorem dX12_isWrongSet_10 : decode cX12_isWrongSet 10 = .ok (.iaload, 1) := by decide +kernel
theorem dX12_isWrongSet_11 : decode cX12_isWrongSet 11 = .ok (.ishr, 1) := by decide +kernel
theorem dX12_isWrongSet_12 : decode cX12_isWrongSet 12 = .ok (.ifCond .eq 7, 3) := by decide +kernel
theorem dX12_isWrongSet_19 : decode cX12_isWrongSet 19 = .ok (.iconst 0, 1) := by decide +kernel
def D_X12_isWrongSet_64 (N : Nat) (k24 : mh_H → Nat → Int32 → Int32 → Int32 → Int32 → Option (Int32 × mh_H)) (h : mh_H) (l0 : Nat) (l1 : Int32) (l2 : Int32) (l4 : Int32) (s0 : Int32) : Option (Int32 × mh_H) :=
  k24 h l0 l1 l2 s0 (l4 + Int32.ofInt (1))
set_option maxHeartbeats 4000000 in
set_option maxRecDepth 100000 in
theorem T_X12_isWrongSet_64 {P : mh_E → Prop} {N d : Nat} (hd : 3 ≤ d) {z : (Int32 × mh_H)} {k24 : mh_H → Nat → Int32 → Int32 → Int32 → Int32 → Option (Int32 × mh_H)} (hk24 : ∀ (h : mh_H) (l0 : Nat) (l1 : Int32) (l2 : Int32) (l3 : Int32) (l4 : Int32), k24 h l0 l1 l2 l3 l4 = some z → mh_go P d mX12_isWrongSet 24 [some (.ref l0), some (.int l1), some (.int l2), some (.int l3), some (.int l4)] [] h (some (.int z.1)) z.2) {h : mh_H} {l0 : Nat} {l1 : Int32} {l2 : Int32} {l4 : Int32} {s0 : Int32} (hq : D_X12_isWrongSet_64 N k24 h l0 l1 l2 l4 s0 = some z) : mh_go P d mX12_isWrongSet 64 [some (.ref l0), some (.int l1), some (.int l2), none, some (.int l4)] [.int s0] h (some (.int z.1)) z.2 := by
  unfold D_X12_isWrongSet_64 at hq
  refine st_istore_n (pc := 64) (lv' := [some (.ref l0), some (.int l1), some (.int l2), some (.int s0), some (.int l4)]) dX12_isWrongSet_64 rfl (by decide) rfl ?_
  refine st_iinc (pc := 65) (lv' := [some (.ref l0), some (.int l1), some (.int l2), some (.int s0), some (.int (l4 + Int32.ofInt (1)))]) dX12_isWrongSet_65 rfl rfl (by decide) rfl ?_
  refine st_goto (pc := 68) (tgt := 24) dX12_isWrongSet_68 (by decide) ?_
  exact hk24 _ _ _ _ _ _ hq
def D_X12_isWrongSet_63 (N : Nat) (k24 : mh_H → Nat → Int32 → Int32 → Int32 → Int32 → Option (Int32 × mh_H)) (h : mh_H) (l0 : Nat) (l1 : Int32) (l2 : Int32) (l4 : Int32) : Option (Int32 × mh_H) :=
  D_X12_isWrongSet_64 N k24 h l0 l1 l2 l4 (0 : Int32)
set_option maxHeartbeats 4000000 in
set_option maxRecDepth 100000 in
theorem T_X12_isWrongSet_63 {P : mh_E → Prop} {N d : Nat} (hd : 3 ≤ d) {z : (Int32 × mh_H)} {k24 : mh_H → Nat → Int32 → Int32 → Int32 → Int32 → Option (Int32 × mh_H)} (hk24 : ∀ (h : mh_H) (l0 : Nat) (l1 : Int32) (l2 : Int32) (l3 : Int32) (l4 : Int32), k24 h l0 l1 l2 l3 l4 = some z → mh_go P d mX12_isWrongSet 24 [some (.ref l0), some (.int l1), some (.int l2), some (.int l3), some (.int l4)] [] h (some (.int z.1)) z.2) {h : mh_H} {l0 : Nat} {l1 : Int32} {l2 : Int32} {l4 : Int32} (hq : D_X12_isWrongSet_63 N k24 h l0 l1 l2 l4 = some z) : mh_go P d mX12_isWrongSet 63 [some (.ref l0), some (.int l1), some (.int l2), none, some (.int l4)] [] h (some (.int z.1)) z.2 := by
  unfold D_X12_isWrongSet_63 at hq
  refine st_iconst (pc := 63) (v := (0 : Int32)) dX12_isWrongSet_63 rfl ?_
  exact T_X12_isWrongSet_64 hd hk24 hq
def D_X12_isWrongSet_24 (N : Nat) : Nat → mh_H → Nat → Int32 → Int32 → Int32 → Int32 → Option (Int32 × mh_H)
  | 0, _, _, _, _, _, _ => none
  | F + 1, h, l0, l1, l2, l3, l4 =>
    (gR h 12 l0 0).bind fun v1 =>
    (aI h v1 (1 : Int32)).bind fun v2 =>
    if v2 ≤ l4 then (some (l3, h))
    else (if l3 = 0 then (if ((l1 >>> (l4 &&& 31)) &&& (1 : Int32)) = (1 : Int32) then (kO h 12 l0 <|
    (D_X12_sort N h l0 l4).bind fun q3 =>
    if q3.1 = l2 then (D_X12_isWrongSet_63 N (D_X12_isWrongSet_24 N F) q3.2 l0 l1 l2 l4)
    else (D_X12_isWrongSet_64 N (D_X12_isWrongSet_24 N F) q3.2 l0 l1 l2 l4 (5 : Int32)))
    else (D_X12_isWrongSet_63 N (D_X12_isWrongSet_24 N F) h l0 l1 l2 l4))
    else (some (l3, h)))
set_option maxHeartbeats 4000000 in
set_option maxRecDepth 100000 in
theorem T_X12_isWrongSet_24 {P : mh_E → Prop} {N d : Nat} (hd : 3 ≤ d) {z : (Int32 × mh_H)} : ∀ (F : Nat) (h : mh_H) (l0 : Nat) (l1 : Int32) (l2 : Int32) (l3 : Int32) (l4 : Int32), D_X12_isWrongSet_24 N F h l0 l1 l2 l3 l4 = some z → mh_go P d mX12_isWrongSet 24 [some (.ref l0), some (.int l1), some (.int l2), some (.int l3), some (.int l4)] [] h (some (.int z.1)) z.2 := by
  intro F
  induction F with
  | zero => intro h l0 l1 l2 l3 l4 hq; rw [D_X12_isWrongSet_24] at hq; cases hq
  | succ F ih =>
    intro h l0 l1 l2 l3 l4 hq
    rw [D_X12_isWrongSet_24] at hq
    refine st_iload (pc := 24) dX12_isWrongSet_24 rfl ?_
    refine st_aload_n (pc := 26) dX12_isWrongSet_26 rfl ?_
    refine bd_getr (pc := 27) hq dX12_isWrongSet_27 fl_12_9_12 rfl (fun v1 hq => ?_)
    refine st_iconst (pc := 30) (v := (1 : Int32)) dX12_isWrongSet_30 rfl ?_
    refine bd_iald (pc := 31) hq dX12_isWrongSet_31 (fun v2 hq => ?_)
    refine bd_icmp_ge (pc := 32) (tgt := 71) hq dX12_isWrongSet_32 (by decide) (fun _ hq => ?_) (fun _ hq => ?_)
    ·
      refine st_iload_n (pc := 71) dX12_isWrongSet_71 rfl ?_
      exact bd_iret (pc := 72) hq dX12_isWrongSet_72 rfl
    ·
      refine st_iload_n (pc := 35) dX12_isWrongSet_35 rfl ?_
      refine bd_if_ne (pc := 36) (tgt := 71) hq dX12_isWrongSet_36 (by decide) (fun _ hq => ?_) (fun _ hq => ?_)
      ·
        refine st_iload_n (pc := 39) dX12_isWrongSet_39 rfl ?_
        refine st_iload (pc := 40) dX12_isWrongSet_40 rfl ?_
        refine st_ishr (pc := 42) dX12_isWrongSet_42 ?_
        refine st_iconst (pc := 43) (v := (1 : Int32)) dX12_isWrongSet_43 rfl ?_
        refine st_iand (pc := 44) dX12_isWrongSet_44 ?_
        refine st_iconst (pc := 45) (v := (1 : Int32)) dX12_isWrongSet_45 rfl ?_
        refine bd_icmp_ne (pc := 46) (tgt := 63) hq dX12_isWrongSet_46 (by decide) (fun _ hq => ?_) (fun _ hq => ?_)
        ·
          refine st_aload_n (pc := 49) dX12_isWrongSet_49 rfl ?_
          refine st_iload (pc := 50) dX12_isWrongSet_50 rfl ?_
          obtain ⟨⟨hbq3, hkq3⟩, hq⟩ := mh_oi hq
          obtain ⟨q3, e3, hq⟩ := mh_ob hq
          refine st_invV (pc := 52) (ci := 12) (vs := [.int l4]) (rest := []) (st2 := [.int q3.1]) dX12_isWrongSet_52 okX12_sort (by decide) hkq3 hbq3 wd_1301 wd_1303 wp_40 pdX12_sort rfl rfl rfl rfl (Nat.le_trans (by decide) hd) (Nat.le_of_ble_eq_true rfl) (T_X12_sort (Nat.le_refl _) e3) rfl ?_
          refine st_iload_n (pc := 55) dX12_isWrongSet_55 rfl ?_
          refine bd_icmp_eq (pc := 56) (tgt := 63) hq dX12_isWrongSet_56 (by decide) (fun _ hq => ?_) (fun _ hq => ?_)
          ·
            refine st_lesS (lv' := [some (.ref l0), some (.int l1), some (.int l2), none, some (.int l4)]) ⟨Or.inr rfl, Or.inr rfl, Or.inr rfl, Or.inl rfl, Or.inr rfl, trivial⟩ ?_
            exact T_X12_isWrongSet_63 hd ih hq
          ·
            refine st_iconst (pc := 59) (v := (5 : Int32)) dX12_isWrongSet_59 rfl ?_
            refine st_goto (pc := 60) (tgt := 64) dX12_isWrongSet_60 (by decide) ?_
            refine st_lesS (lv' := [some (.ref l0), some (.int l1), some (.int l2), none, some (.int l4)]) ⟨Or.inr rfl, Or.inr rfl, Or.inr rfl, Or.inl rfl, Or.inr rfl, trivial⟩ ?_
            exact T_X12_isWrongSet_64 hd ih hq
        ·
          refine st_lesS (lv' := [some (.ref l0), some (.int l1), some (.int l2), none, some (.int l4)]) ⟨Or.inr rfl, Or.inr rfl, Or.inr rfl, Or.inl rfl, Or.inr rfl, trivial⟩ ?_
          exact T_X12_isWrongSet_63 hd ih hq
      ·
        refine st_iload_n (pc := 71) dX12_isWrongSet_71 rfl ?_
        exact bd_iret (pc := 72) hq dX12_isWrongSet_72 rfl
def D_X12_isWrongSet_20 (N : Nat) (h : mh_H) (l0 : Nat) (l1 : Int32) (l2 : Int32) (s0 : Int32) : Option (Int32 × mh_H) :=
  D_X12_isWrongSet_24 N N h l0 l1 l2 s0 (0 : Int32)
set_option maxHeartbeats 4000000 in
set_option maxRecDepth 100000 in
theorem T_X12_isWrongSet_20 {P : mh_E → Prop} {N d : Nat} (hd : 3 ≤ d) {z : (Int32 × mh_H)} {h : mh_H} {l0 : Nat} {l1 : Int32} {l2 : Int32} {s0 : Int32} (hq : D_X12_isWrongSet_20 N h l0 l1 l2 s0 = some z) : mh_go P d mX12_isWrongSet 20 [some (.ref l0), some (.int l1), some (.int l2), none, none] [.int s0] h (some (.int z.1)) z.2 := by
  unfold D_X12_isWrongSet_20 at hq
  refine st_istore_n (pc := 20) (lv' := [some (.ref l0), some (.int l1), some (.int l2), some (.int s0), none]) dX12_isWrongSet_20 rfl (by decide) rfl ?_
  refine st_iconst (pc := 21) (v := (0 : Int32)) dX12_isWrongSet_21 rfl ?_
  refine st_istore (pc := 22) (lv' := [some (.ref l0), some (.int l1), some (.int l2), some (.int s0), some (.int (0 : Int32))]) dX12_isWrongSet_22 rfl (by decide) rfl ?_
  exact T_X12_isWrongSet_24 hd N _ _ _ _ _ _ hq
def D_X12_isWrongSet_15 (N : Nat) (h : mh_H) (l0 : Nat) (l1 : Int32) (l2 : Int32) : Option (Int32 × mh_H) :=
  D_X12_isWrongSet_20 N h l0 l1 l2 (1 : Int32)
set_option maxHeartbeats 4000000 in
set_option maxRecDepth 100000 in
theorem T_X12_isWrongSet_15 {P : mh_E → Prop} {N d : Nat} (hd : 3 ≤ d) {z : (Int32 × mh_H)} {h : mh_H} {l0 : Nat} {l1 : Int32} {l2 : Int32} (hq : D_X12_isWrongSet_15 N h l0 l1 l2 = some z) : mh_go P d mX12_isWrongSet 15 [some (.ref l0), some (.int l1), some (.int l2), none, none] [] h (some (.int z.1)) z.2 := by
  unfold D_X12_isWrongSet_15 at hq
  refine st_iconst (pc := 15) (v := (1 : Int32)) dX12_isWrongSet_15 rfl ?_
  refine st_goto (pc := 16) (tgt := 20) dX12_isWrongSet_16 (by decide) ?_
  exact T_X12_isWrongSet_20 hd hq
def D_X12_isWrongSet (N : Nat) (h : mh_H) (l0 : Nat) (l1 : Int32) (l2 : Int32) : Option (Int32 × mh_H) :=
  if l1 < 0 then (D_X12_isWrongSet_15 N h l0 l1 l2)
  else ((gR h 12 l0 0).bind fun v1 =>
  (aI h v1 (1 : Int32)).bind fun v2 =>
  if (l1 >>> (v2 &&& 31)) = 0 then (D_X12_isWrongSet_20 N h l0 l1 l2 (0 : Int32))
  else (D_X12_isWrongSet_15 N h l0 l1 l2))
set_option maxHeartbeats 4000000 in
set_option maxRecDepth 100000 in
theorem T_X12_isWrongSet {P : mh_E → Prop} {N d : Nat} (hd : 3 ≤ d) {z : (Int32 × mh_H)} {h : mh_H} {l0 : Nat} {l1 : Int32} {l2 : Int32} (hq : D_X12_isWrongSet N h l0 l1 l2 = some z) : mh_go P d mX12_isWrongSet 0 [some (.ref l0), some (.int l1), some (.int l2), none, none] [] h (some (.int z.1)) z.2 := by
  unfold D_X12_isWrongSet at hq
  refine st_iload_n (pc := 0) dX12_isWrongSet_0 rfl ?_
  refine bd_if_lt (pc := 1) (tgt := 15) hq dX12_isWrongSet_1 (by decide) (fun _ hq => ?_) (fun _ hq => ?_)
  ·
    exact T_X12_isWrongSet_15 hd hq
  ·
    refine st_iload_n (pc := 4) dX12_isWrongSet_4 rfl ?_
    refine st_aload_n (pc := 5) dX12_isWrongSet_5 rfl ?_
    refine bd_getr (pc := 6) hq dX12_isWrongSet_6 fl_12_9_12 rfl (fun v1 hq => ?_)
    refine st_iconst (pc := 9) (v := (1 : Int32)) dX12_isWrongSet_9 rfl ?_
    refine bd_iald (pc := 10) hq dX12_isWrongSet_10 (fun v2 hq => ?_)
    refine st_ishr (pc := 11) dX12_isWrongSet_11 ?_
    refine bd_if_eq (pc := 12) (tgt := 19) hq dX12_isWrongSet_12 (by decide) (fun _ hq => ?_) (fun _ hq => ?_)
    ·
      refine st_iconst (pc := 19) (v := (0 : Int32)) dX12_isWrongSet_19 rfl ?_
      exact T_X12_isWrongSet_20 hd hq
    ·
      exact T_X12_isWrongSet_15 hd hq
-- HoleWaterModel.lists(I[I)I
theorem dX12_lists_36 : decode cX12_lists 36 = .ok (.iinc 4 1, 3) := by decide +kernel
theorem dX12_lists_39 : decode cX12_lists 39 = .ok (.goto (-34), 3) := by decide +kernel
theorem dX12_lists_5 : decode cX12_lists 5 = .ok (.iload 4, 2) := by decide +kernel
theorem dX12_lists_7 : decode cX12_lists 7 = .ok (.aload_n 0, 1) := by decide +kernel
theorem dX12_lists_8 : decode cX12_lists 8 = .ok (.getfield 9, 3) := by decide +kernel
theorem dX12_lists_11 : decode cX12_lists 11 = .ok (.iconst 1, 1) := by decide +kernel
theorem dX12_lists_12 : decode cX12_lists 12 = .ok (.iaload, 1) := by decide +kernel
theorem dX12_lists_13 : decode cX12_lists 13 = .ok (.if_icmp .ge 29, 3) := by decide +kernel
theorem dX12_lists_42 : decode cX12_lists 42 = .ok (.iload_n 3, 1) := by decide +kernel
theorem dX12_lists_43 : decode cX12_lists 43 = .ok (.ireturn, 1) := by decide +kernel
theorem dX12_lists_16 : decode cX12_lists 16 = .ok (.iload_n 1, 1) := by decide +kernel
theorem dX12_lists_17 : decode cX12_lists 17 = .ok (.iload 4, 2) := by decide +kernel
theorem dX12_lists_19 : decode cX12_lists 19 = .ok (.ishr, 1) := by decide +kernel
theorem dX12_lists_20 : decode cX12_lists 20 = .ok (.iconst 1, 1) := by decide +kernel
theorem dX12_lists_21 : decode cX12_lists 21 = .ok (.iand, 1) := by decide +kernel
theorem dX12_lists_22 : decode cX12_lists 22 = .ok (.ifCond .ne 6, 3) := by decide +kernel
theorem dX12_lists_25 : decode cX12_lists 25 = .ok (.goto 11, 3) := by decide +kernel
theorem dX12_lists_28 : decode cX12_lists 28 = .ok (.aload_n 2, 1) := by decide +kernel
theorem dX12_lists_29 : decode cX12_lists 29 = .ok (.iload_n 3, 1) := by decide +kernel
theorem dX12_lists_30 : decode cX12_lists 30 = .ok (.iload 4, 2) := by decide +kernel
theorem dX12_lists_32 : decode cX12_lists 32 = .ok (.iastore, 1) := by decide +kernel
theorem dX12_lists_33 : decode cX12_lists 33 = .ok (.iinc 3 1, 3) := by decide +kernel
theorem dX12_lists_0 : decode cX12_lists 0 = .ok (.iconst 0, 1) := by decide +kernel
theorem dX12_lists_1 : decode cX12_lists 1 = .ok (.istore_n 3, 1) := by decide +kernel
theorem dX12_lists_2 : decode cX12_lists 2 = .ok (.iconst 0, 1) := by decide +kernel
theorem dX12_lists_3 : decode cX12_lists 3 = .ok (.istore 4, 2) := by decide +kernel
def D_X12_lists_36 (N : Nat) (k5 : mh_H → Nat → Int32 → Nat → Int32 → Int32 → Option (Int32 × mh_H)) (h : mh_H) (l0 : Nat) (l1 : Int32) (l2 : Nat) (l3 : Int32) (l4 : Int32) : Option (Int32 × mh_H) :=
  k5 h l0 l1 l2 l3 (l4 + Int32.ofInt (1))
set_option maxHeartbeats 4000000 in
set_option maxRecDepth 100000 in
theorem T_X12_lists_36 {P : mh_E → Prop} {N d : Nat} (hd : 1 ≤ d) {z : (Int32 × mh_H)} {k5 : mh_H → Nat → Int32 → Nat → Int32 → Int32 → Option (Int32 × mh_H)} (hk5 : ∀ (h : mh_H) (l0 : Nat) (l1 : Int32) (l2 : Nat) (l3 : Int32) (l4 : Int32), k5 h l0 l1 l2 l3 l4 = some z → mh_go P d mX12_lists 5 [some (.ref l0), some (.int l1), some (.ref l2), some (.int l3), some (.int l4)] [] h (some (.int z.1)) z.2) {h : mh_H} {l0 : Nat} {l1 : Int32} {l2 : Nat} {l3 : Int32} {l4 : Int32} (hq : D_X12_lists_36 N k5 h l0 l1 l2 l3 l4 = some z) : mh_go P d mX12_lists 36 [some (.ref l0), some (.int l1), some (.ref l2), some (.int l3), some (.int l4)] [] h (some (.int z.1)) z.2 := by
  unfold D_X12_lists_36 at hq
  refine st_iinc (pc := 36) (lv' := [some (.ref l0), some (.int l1), some (.ref l2), some (.int l3), some (.int (l4 + Int32.ofInt (1)))]) dX12_lists_36 rfl rfl (by decide) rfl ?_
  refine st_goto (pc := 39) (tgt := 5) dX12_lists_39 (by decide) ?_
  exact hk5 _ _ _ _ _ _ hq
def D_X12_lists_5 (N : Nat) : Nat → mh_H → Nat → Int32 → Nat → Int32 → Int32 → Option (Int32 × mh_H)
  | 0, _, _, _, _, _, _ => none
  | F + 1, h, l0, l1, l2, l3, l4 =>
    (gR h 12 l0 0).bind fun v1 =>
    (aI h v1 (1 : Int32)).bind fun v2 =>
    if v2 ≤ l4 then (some (l3, h))
    else (if ((l1 >>> (l4 &&& 31)) &&& (1 : Int32)) = 0 then (D_X12_lists_36 N (D_X12_lists_5 N F) h l0 l1 l2 l3 l4)
    else ((uI h l2 l3 l4).bind fun h3 =>
    D_X12_lists_36 N (D_X12_lists_5 N F) h3 l0 l1 l2 (l3 + Int32.ofInt (1)) l4))
set_option maxHeartbeats 4000000 in
set_option maxRecDepth 100000 in
theorem T_X12_lists_5 {P : mh_E → Prop} {N d : Nat} (hd : 1 ≤ d) {z : (Int32 × mh_H)} : ∀ (F : Nat) (h : mh_H) (l0 : Nat) (l1 : Int32) (l2 : Nat) (l3 : Int32) (l4 : Int32), D_X12_lists_5 N F h l0 l1 l2 l3 l4 = some z → mh_go P d mX12_lists 5 [some (.ref l0), some (.int l1), some (.ref l2), some (.int l3), some (.int l4)] [] h (some (.int z.1)) z.2 := by
  intro F
  induction F with
  | zero => intro h l0 l1 l2 l3 l4 hq; rw [D_X12_lists_5] at hq; cases hq
  | succ F ih =>
    intro h l0 l1 l2 l3 l4 hq
    rw [D_X12_lists_5] at hq
    refine st_iload (pc := 5) dX12_lists_5 rfl ?_
    refine st_aload_n (pc := 7) dX12_lists_7 rfl ?_
    refine bd_getr (pc := 8) hq dX12_lists_8 fl_12_9_12 rfl (fun v1 hq => ?_)
    refine st_iconst (pc := 11) (v := (1 : Int32)) dX12_lists_11 rfl ?_
    refine bd_iald (pc := 12) hq dX12_lists_12 (fun v2 hq => ?_)
    refine bd_icmp_ge (pc := 13) (tgt := 42) hq dX12_lists_13 (by decide) (fun _ hq => ?_) (fun _ hq => ?_)
    ·
      refine st_iload_n (pc := 42) dX12_lists_42 rfl ?_
      exact bd_iret (pc := 43) hq dX12_lists_43 rfl
    ·
      refine st_iload_n (pc := 16) dX12_lists_16 rfl ?_
      refine st_iload (pc := 17) dX12_lists_17 rfl ?_
      refine st_ishr (pc := 19) dX12_lists_19 ?_
      refine st_iconst (pc := 20) (v := (1 : Int32)) dX12_lists_20 rfl ?_
      refine st_iand (pc := 21) dX12_lists_21 ?_
      refine bd_if_ne (pc := 22) (tgt := 28) hq dX12_lists_22 (by decide) (fun _ hq => ?_) (fun _ hq => ?_)
      ·
        refine st_goto (pc := 25) (tgt := 36) dX12_lists_25 (by decide) ?_
        exact T_X12_lists_36 hd ih hq
      ·
        refine st_aload_n (pc := 28) dX12_lists_28 rfl ?_
        refine st_iload_n (pc := 29) dX12_lists_29 rfl ?_
        refine st_iload (pc := 30) dX12_lists_30 rfl ?_
        refine bd_iast (pc := 32) hq dX12_lists_32 (fun h3 hq => ?_)
        refine st_iinc (pc := 33) (lv' := [some (.ref l0), some (.int l1), some (.ref l2), some (.int (l3 + Int32.ofInt (1))), some (.int l4)]) dX12_lists_33 rfl rfl (by decide) rfl ?_
        exact T_X12_lists_36 hd ih hq
def D_X12_lists (N : Nat) (h : mh_H) (l0 : Nat) (l1 : Int32) (l2 : Nat) : Option (Int32 × mh_H) :=
  D_X12_lists_5 N N h l0 l1 l2 (0 : Int32) (0 : Int32)
set_option maxHeartbeats 4000000 in
set_option maxRecDepth 100000 in
theorem T_X12_lists {P : mh_E → Prop} {N d : Nat} (hd : 1 ≤ d) {z : (Int32 × mh_H)} {h : mh_H} {l0 : Nat} {l1 : Int32} {l2 : Nat} (hq : D_X12_lists N h l0 l1 l2 = some z) : mh_go P d mX12_lists 0 [some (.ref l0), some (.int l1), some (.ref l2), none, none] [] h (some (.int z.1)) z.2 := by
  unfold D_X12_lists at hq
  refine st_iconst (pc := 0) (v := (0 : Int32)) dX12_lists_0 rfl ?_
  refine st_istore_n (pc := 1) (lv' := [some (.ref l0), some (.int l1), some (.ref l2), some (.int (0 : Int32)), none]) dX12_lists_1 rfl (by decide) rfl ?_
  refine st_iconst (pc := 2) (v := (0 : Int32)) dX12_lists_2 rfl ?_
  refine st_istore (pc := 3) (lv' := [some (.ref l0), some (.int l1), some (.ref l2), some (.int (0 : Int32)), some (.int (0 : Int32))]) dX12_lists_3 rfl (by decide) rfl ?_
  exact T_X12_lists_5 hd N _ _ _ _ _ _ hq
-- HoleWaterModel.canHold(III)Z
theorem dX12_canHold_73 : decode cX12_canHold 73 = .ok (.istore 5, 2) := by decide +kernel
theorem dX12_canHold_75 : decode cX12_canHold 75 = .ok (.iinc 6 1, 3) := by decide +kernel
theorem dX12_canHold_78 : decode cX12_canHold 78 = .ok (.goto (-60), 3) := by decide +kernel
theorem dX12_canHold_72 : decode cX12_canHold 72 = .ok (.iconst 0, 1) := by decide +kernel
theorem dX12_canHold_18 : decode cX12_canHold 18 = .ok (.iload 6, 2) := by decide +kernel
theorem dX12_canHold_20 : decode cX12_canHold 20 = .ok (.iload_n 3, 1) := by decide +kernel
theorem dX12_canHold_21 : decode cX12_canHold 21 = .ok (.if_icmp .ge 60, 3) := by decide +kernel
theorem dX12_canHold_81 : decode cX12_canHold 81 = .ok (.iload 5, 2) := by decide +kernel
theorem dX12_canHold_83 : decode cX12_canHold 83 = .ok (.ireturn, 1) := by decide +kernel
theorem dX12_canHold_24 : decode cX12_canHold 24 = .ok (.iload_n 2, 1) := by decide +kernel
theorem dX12_canHold_25 : decode cX12_canHold 25 = .ok (.ifCond .le 56, 3) := by decide +kernel
theorem dX12_canHold_28 : decode cX12_canHold 28 = .ok (.iload 5, 2) := by decide +kernel
theorem dX12_canHold_30 : decode cX12_canHold 30 = .ok (.ifCond .ne 51, 3) := by decide +kernel
theorem dX12_canHold_33 : decode cX12_canHold 33 = .ok (.aload_n 0, 1) := by decide +kernel
theorem dX12_canHold_34 : decode cX12_canHold 34 = .ok (.getfield 46, 3) := by decide +kernel
theorem dX12_canHold_37 : decode cX12_canHold 37 = .ok (.iload 6, 2) := by decide +kernel
theorem dX12_canHold_39 : decode cX12_canHold 39 = .ok (.iaload, 1) := by decide +kernel
theorem dX12_canHold_40 : decode cX12_canHold 40 = .ok (.iload 4, 2) := by decide +kernel
theorem dX12_canHold_42 : decode cX12_canHold 42 = .ok (.iand, 1) := by decide +kernel
theorem dX12_canHold_43 : decode cX12_canHold 43 = .ok (.ifCond .eq 29, 3) := by decide +kernel
theorem dX12_canHold_46 : decode cX12_canHold 46 = .ok (.aload_n 0, 1) := by decide +kernel
theorem dX12_canHold_47 : decode cX12_canHold 47 = .ok (.iload_n 1, 1) := by decide +kernel
theorem dX12_canHold_48 : decode cX12_canHold 48 = .ok (.aload_n 0, 1) := by decide +kernel
theorem dX12_canHold_49 : decode cX12_canHold 49 = .ok (.getfield 46, 3) := by decide +kernel
theorem dX12_canHold_52 : decode cX12_canHold 52 = .ok (.iload 6, 2) := by decide +kernel
theorem dX12_canHold_54 : decode cX12_canHold 54 = .ok (.iaload, 1) := by decide +kernel
theorem dX12_canHold_55 : decode cX12_canHold 55 = .ok (.iconst (-1), 1) := by decide +kernel
theorem dX12_canHold_56 : decode cX12_canHold 56 = .ok (.ixor, 1) := by decide +kernel
theorem dX12_canHold_57 : decode cX12_canHold 57 = .ok (.iand, 1) := by decide +kernel
theorem dX12_canHold_58 : decode cX12_canHold 58 = .ok (.iload_n 2, 1) := by decide +kernel
theorem dX12_canHold_59 : decode cX12_canHold 59 = .ok (.iconst 1, 1) := by decide +kernel
theorem dX12_canHold_60 : decode cX12_canHold 60 = .ok (.isub, 1) := by decide +kernel
theorem dX12_canHold_61 : decode cX12_canHold 61 = .ok (.iload_n 3, 1) := by decide +kernel
theorem dX12_canHold_62 : decode cX12_canHold 62 = .ok (.invokevirtual 287, 3) := by decide +kernel
theorem dX12_canHold_65 : decode cX12_canHold 65 = .ok (.ifCond .eq 7, 3) := by decide +kernel
theorem dX12_canHold_68 : decode cX12_canHold 68 = .ok (.iconst 1, 1) := by decide +kernel
theorem dX12_canHold_69 : decode cX12_canHold 69 = .ok (.goto 4, 3) := by decide +kernel
theorem dX12_canHold_0 : decode cX12_canHold 0 = .ok (.iload_n 1, 1) := by decide +kernel
theorem dX12_canHold_1 : decode cX12_canHold 1 = .ok (.ifCond .ne 5, 3) := by decide +kernel
theorem dX12_canHold_4 : decode cX12_canHold 4 = .ok (.iconst 1, 1) := by decide +kernel
theorem dX12_canHold_5 : decode cX12_canHold 5 = .ok (.ireturn, 1) := by decide +kernel
theorem dX12_canHold_6 : decode cX12_canHold 6 = .ok (.iload_n 1, 1) := by decide +kernel
theorem dX12_canHold_7 : decode cX12_canHold 7 = .ok (.iload_n 1, 1) := by decide +kernel
theorem dX12_canHold_8 : decode cX12_canHold 8 = .ok (.ineg, 1) := by decide +kernel
theorem dX12_canHold_9 : decode cX12_canHold 9 = .ok (.iand, 1) := by decide +kernel
theorem dX12_canHold_10 : decode cX12_canHold 10 = .ok (.istore 4, 2) := by decide +kernel
theorem dX12_canHold_12 : decode cX12_canHold 12 = .ok (.iconst 0, 1) := by decide +kernel
theorem dX12_canHold_13 : decode cX12_canHold 13 = .ok (.istore 5, 2) := by decide +kernel
theorem dX12_canHold_15 : decode cX12_canHold 15 = .ok (.iconst 1, 1) := by decide +kernel
theorem dX12_canHold_16 : decode cX12_canHold 16 = .ok (.istore 6, 2) := by decide +kernel
def D_X12_canHold_73 (N : Nat) (kB : mh_H → Nat → Int32 → Int32 → Int32 → Option (Int32 × mh_H)) (k18 : mh_H → Nat → Int32 → Int32 → Int32 → Int32 → Int32 → Int32 → Option (Int32 × mh_H)) (h : mh_H) (l0 : Nat) (l1 : Int32) (l2 : Int32) (l3 : Int32) (l4 : Int32) (l6 : Int32) (s0 : Int32) : Option (Int32 × mh_H) :=
  k18 h l0 l1 l2 l3 l4 s0 (l6 + Int32.ofInt (1))
set_option maxHeartbeats 4000000 in
set_option maxRecDepth 100000 in
theorem T_X12_canHold_73 {P : mh_E → Prop} {N d : Nat} (hd : 1 ≤ d) {kB : mh_H → Nat → Int32 → Int32 → Int32 → Option (Int32 × mh_H)} {dB : Nat} (hdB : dB + 1 ≤ d) (hB : ∀ (h : mh_H) (x0 : Nat) (x1 : Int32) (x2 : Int32) (x3 : Int32) (z : (Int32 × mh_H)), kB h x0 x1 x2 x3 = some z → mh_go P dB mX12_canHold 0 [some (.ref x0), some (.int x1), some (.int x2), some (.int x3), none, none, none] [] h (some (.int z.1)) z.2) {z : (Int32 × mh_H)} {k18 : mh_H → Nat → Int32 → Int32 → Int32 → Int32 → Int32 → Int32 → Option (Int32 × mh_H)} (hk18 : ∀ (h : mh_H) (l0 : Nat) (l1 : Int32) (l2 : Int32) (l3 : Int32) (l4 : Int32) (l5 : Int32) (l6 : Int32), k18 h l0 l1 l2 l3 l4 l5 l6 = some z → mh_go P d mX12_canHold 18 [some (.ref l0), some (.int l1), some (.int l2), some (.int l3), some (.int l4), some (.int l5), some (.int l6)] [] h (some (.int z.1)) z.2) {h : mh_H} {l0 : Nat} {l1 : Int32} {l2 : Int32} {l3 : Int32} {l4 : Int32} {l6 : Int32} {s0 : Int32} (hq : D_X12_canHold_73 N kB k18 h l0 l1 l2 l3 l4 l6 s0 = some z) : mh_go P d mX12_canHold 73 [some (.ref l0), some (.int l1), some (.int l2), some (.int l3), some (.int l4), none, some (.int l6)] [.int s0] h (some (.int z.1)) z.2 := by
  unfold D_X12_canHold_73 at hq
  refine st_istore (pc := 73) (lv' := [some (.ref l0), some (.int l1), some (.int l2), some (.int l3), some (.int l4), some (.int s0), some (.int l6)]) dX12_canHold_73 rfl (by decide) rfl ?_
  refine st_iinc (pc := 75) (lv' := [some (.ref l0), some (.int l1), some (.int l2), some (.int l3), some (.int l4), some (.int s0), some (.int (l6 + Int32.ofInt (1)))]) dX12_canHold_75 rfl rfl (by decide) rfl ?_
  refine st_goto (pc := 78) (tgt := 18) dX12_canHold_78 (by decide) ?_
  exact hk18 _ _ _ _ _ _ _ _ hq
def D_X12_canHold_72 (N : Nat) (kB : mh_H → Nat → Int32 → Int32 → Int32 → Option (Int32 × mh_H)) (k18 : mh_H → Nat → Int32 → Int32 → Int32 → Int32 → Int32 → Int32 → Option (Int32 × mh_H)) (h : mh_H) (l0 : Nat) (l1 : Int32) (l2 : Int32) (l3 : Int32) (l4 : Int32) (l6 : Int32) : Option (Int32 × mh_H) :=
  D_X12_canHold_73 N kB k18 h l0 l1 l2 l3 l4 l6 (0 : Int32)
set_option maxHeartbeats 4000000 in
set_option maxRecDepth 100000 in
theorem T_X12_canHold_72 {P : mh_E → Prop} {N d : Nat} (hd : 1 ≤ d) {kB : mh_H → Nat → Int32 → Int32 → Int32 → Option (Int32 × mh_H)} {dB : Nat} (hdB : dB + 1 ≤ d) (hB : ∀ (h : mh_H) (x0 : Nat) (x1 : Int32) (x2 : Int32) (x3 : Int32) (z : (Int32 × mh_H)), kB h x0 x1 x2 x3 = some z → mh_go P dB mX12_canHold 0 [some (.ref x0), some (.int x1), some (.int x2), some (.int x3), none, none, none] [] h (some (.int z.1)) z.2) {z : (Int32 × mh_H)} {k18 : mh_H → Nat → Int32 → Int32 → Int32 → Int32 → Int32 → Int32 → Option (Int32 × mh_H)} (hk18 : ∀ (h : mh_H) (l0 : Nat) (l1 : Int32) (l2 : Int32) (l3 : Int32) (l4 : Int32) (l5 : Int32) (l6 : Int32), k18 h l0 l1 l2 l3 l4 l5 l6 = some z → mh_go P d mX12_canHold 18 [some (.ref l0), some (.int l1), some (.int l2), some (.int l3), some (.int l4), some (.int l5), some (.int l6)] [] h (some (.int z.1)) z.2) {h : mh_H} {l0 : Nat} {l1 : Int32} {l2 : Int32} {l3 : Int32} {l4 : Int32} {l6 : Int32} (hq : D_X12_canHold_72 N kB k18 h l0 l1 l2 l3 l4 l6 = some z) : mh_go P d mX12_canHold 72 [some (.ref l0), some (.int l1), some (.int l2), some (.int l3), some (.int l4), none, some (.int l6)] [] h (some (.int z.1)) z.2 := by
  unfold D_X12_canHold_72 at hq
  refine st_iconst (pc := 72) (v := (0 : Int32)) dX12_canHold_72 rfl ?_
  exact T_X12_canHold_73 hd hdB hB hk18 hq
def D_X12_canHold_18 (N : Nat) (kB : mh_H → Nat → Int32 → Int32 → Int32 → Option (Int32 × mh_H)) : Nat → mh_H → Nat → Int32 → Int32 → Int32 → Int32 → Int32 → Int32 → Option (Int32 × mh_H)
  | 0, _, _, _, _, _, _, _, _ => none
  | F + 1, h, l0, l1, l2, l3, l4, l5, l6 =>
    if l3 ≤ l6 then (zB l5 h)
    else (if l2 ≤ 0 then (zB l5 h)
    else (if l5 = 0 then ((gR h 12 l0 19).bind fun v1 =>
    (aI h v1 l6).bind fun v2 =>
    if (v2 &&& l4) = 0 then (D_X12_canHold_72 N kB (D_X12_canHold_18 N kB F) h l0 l1 l2 l3 l4 l6)
    else ((gR h 12 l0 19).bind fun v3 =>
    (aI h v3 l6).bind fun v4 =>
    kO h 12 l0 <|
    (kB h l0 (l1 &&& (v4 ^^^ (-1 : Int32))) (l2 - (1 : Int32)) l3).bind fun q5 =>
    if q5.1 = 0 then (D_X12_canHold_72 N kB (D_X12_canHold_18 N kB F) q5.2 l0 l1 l2 l3 l4 l6)
    else (D_X12_canHold_73 N kB (D_X12_canHold_18 N kB F) q5.2 l0 l1 l2 l3 l4 l6 (1 : Int32))))
    else (zB l5 h)))
set_option maxHeartbeats 4000000 in
set_option maxRecDepth 100000 in
theorem T_X12_canHold_18 {P : mh_E → Prop} {N d : Nat} (hd : 1 ≤ d) {kB : mh_H → Nat → Int32 → Int32 → Int32 → Option (Int32 × mh_H)} {dB : Nat} (hdB : dB + 1 ≤ d) (hB : ∀ (h : mh_H) (x0 : Nat) (x1 : Int32) (x2 : Int32) (x3 : Int32) (z : (Int32 × mh_H)), kB h x0 x1 x2 x3 = some z → mh_go P dB mX12_canHold 0 [some (.ref x0), some (.int x1), some (.int x2), some (.int x3), none, none, none] [] h (some (.int z.1)) z.2) {z : (Int32 × mh_H)} : ∀ (F : Nat) (h : mh_H) (l0 : Nat) (l1 : Int32) (l2 : Int32) (l3 : Int32) (l4 : Int32) (l5 : Int32) (l6 : Int32), D_X12_canHold_18 N kB F h l0 l1 l2 l3 l4 l5 l6 = some z → mh_go P d mX12_canHold 18 [some (.ref l0), some (.int l1), some (.int l2), some (.int l3), some (.int l4), some (.int l5), some (.int l6)] [] h (some (.int z.1)) z.2 := by
  intro F
  induction F with
  | zero => intro h l0 l1 l2 l3 l4 l5 l6 hq; rw [D_X12_canHold_18] at hq; cases hq
  | succ F ih =>
    intro h l0 l1 l2 l3 l4 l5 l6 hq
    rw [D_X12_canHold_18] at hq
    refine st_iload (pc := 18) dX12_canHold_18 rfl ?_
    refine st_iload_n (pc := 20) dX12_canHold_20 rfl ?_
    refine bd_icmp_ge (pc := 21) (tgt := 81) hq dX12_canHold_21 (by decide) (fun _ hq => ?_) (fun _ hq => ?_)
    ·
      refine st_iload (pc := 81) dX12_canHold_81 rfl ?_
      exact bd_zret (pc := 83) hq dX12_canHold_83 rfl
    ·
      refine st_iload_n (pc := 24) dX12_canHold_24 rfl ?_
      refine bd_if_le (pc := 25) (tgt := 81) hq dX12_canHold_25 (by decide) (fun _ hq => ?_) (fun _ hq => ?_)
      ·
        refine st_iload (pc := 81) dX12_canHold_81 rfl ?_
        exact bd_zret (pc := 83) hq dX12_canHold_83 rfl
      ·
        refine st_iload (pc := 28) dX12_canHold_28 rfl ?_
        refine bd_if_ne (pc := 30) (tgt := 81) hq dX12_canHold_30 (by decide) (fun _ hq => ?_) (fun _ hq => ?_)
        ·
          refine st_aload_n (pc := 33) dX12_canHold_33 rfl ?_
          refine bd_getr (pc := 34) hq dX12_canHold_34 fl_12_46_12 rfl (fun v1 hq => ?_)
          refine st_iload (pc := 37) dX12_canHold_37 rfl ?_
          refine bd_iald (pc := 39) hq dX12_canHold_39 (fun v2 hq => ?_)
          refine st_iload (pc := 40) dX12_canHold_40 rfl ?_
          refine st_iand (pc := 42) dX12_canHold_42 ?_
          refine bd_if_eq (pc := 43) (tgt := 72) hq dX12_canHold_43 (by decide) (fun _ hq => ?_) (fun _ hq => ?_)
          ·
            refine st_lesS (lv' := [some (.ref l0), some (.int l1), some (.int l2), some (.int l3), some (.int l4), none, some (.int l6)]) ⟨Or.inr rfl, Or.inr rfl, Or.inr rfl, Or.inr rfl, Or.inr rfl, Or.inl rfl, Or.inr rfl, trivial⟩ ?_
            exact T_X12_canHold_72 hd hdB hB ih hq
          ·
            refine st_aload_n (pc := 46) dX12_canHold_46 rfl ?_
            refine st_iload_n (pc := 47) dX12_canHold_47 rfl ?_
            refine st_aload_n (pc := 48) dX12_canHold_48 rfl ?_
            refine bd_getr (pc := 49) hq dX12_canHold_49 fl_12_46_12 rfl (fun v3 hq => ?_)
            refine st_iload (pc := 52) dX12_canHold_52 rfl ?_
            refine bd_iald (pc := 54) hq dX12_canHold_54 (fun v4 hq => ?_)
            refine st_iconst (pc := 55) (v := (-1 : Int32)) dX12_canHold_55 rfl ?_
            refine st_ixor (pc := 56) dX12_canHold_56 ?_
            refine st_iand (pc := 57) dX12_canHold_57 ?_
            refine st_iload_n (pc := 58) dX12_canHold_58 rfl ?_
            refine st_iconst (pc := 59) (v := (1 : Int32)) dX12_canHold_59 rfl ?_
            refine st_isub (pc := 60) dX12_canHold_60 ?_
            refine st_iload_n (pc := 61) dX12_canHold_61 rfl ?_
            obtain ⟨⟨hbq5, hkq5⟩, hq⟩ := mh_oi hq
            obtain ⟨q5, e5, hq⟩ := mh_ob hq
            refine st_invV (pc := 62) (ci := 12) (vs := [.int (l1 &&& (v4 ^^^ (-1 : Int32))), .int (l2 - (1 : Int32)), .int l3]) (rest := []) (st2 := [.int q5.1]) dX12_canHold_62 okX12_canHold (by decide) hkq5 hbq5 wd_1620 wd_1622 wp_82 pdX12_canHold rfl rfl rfl rfl (by omega) (Nat.le_of_ble_eq_true rfl) (hB _ _ _ _ _ _ e5) rfl ?_
            refine bd_if_eq (pc := 65) (tgt := 72) hq dX12_canHold_65 (by decide) (fun _ hq => ?_) (fun _ hq => ?_)
            ·
              refine st_lesS (lv' := [some (.ref l0), some (.int l1), some (.int l2), some (.int l3), some (.int l4), none, some (.int l6)]) ⟨Or.inr rfl, Or.inr rfl, Or.inr rfl, Or.inr rfl, Or.inr rfl, Or.inl rfl, Or.inr rfl, trivial⟩ ?_
              exact T_X12_canHold_72 hd hdB hB ih hq
            ·
              refine st_iconst (pc := 68) (v := (1 : Int32)) dX12_canHold_68 rfl ?_
              refine st_goto (pc := 69) (tgt := 73) dX12_canHold_69 (by decide) ?_
              refine st_lesS (lv' := [some (.ref l0), some (.int l1), some (.int l2), some (.int l3), some (.int l4), none, some (.int l6)]) ⟨Or.inr rfl, Or.inr rfl, Or.inr rfl, Or.inr rfl, Or.inr rfl, Or.inl rfl, Or.inr rfl, trivial⟩ ?_
              exact T_X12_canHold_73 hd hdB hB ih hq
        ·
          refine st_iload (pc := 81) dX12_canHold_81 rfl ?_
          exact bd_zret (pc := 83) hq dX12_canHold_83 rfl
def E_X12_canHold (N : Nat) (kB : mh_H → Nat → Int32 → Int32 → Int32 → Option (Int32 × mh_H)) (h : mh_H) (l0 : Nat) (l1 : Int32) (l2 : Int32) (l3 : Int32) : Option (Int32 × mh_H) :=
  if l1 = 0 then (zB (1 : Int32) h)
  else (D_X12_canHold_18 N kB N h l0 l1 l2 l3 (l1 &&& (-l1)) (0 : Int32) (1 : Int32))
set_option maxHeartbeats 4000000 in
set_option maxRecDepth 100000 in
theorem TE_X12_canHold {P : mh_E → Prop} {N d : Nat} (hd : 1 ≤ d) {kB : mh_H → Nat → Int32 → Int32 → Int32 → Option (Int32 × mh_H)} {dB : Nat} (hdB : dB + 1 ≤ d) (hB : ∀ (h : mh_H) (x0 : Nat) (x1 : Int32) (x2 : Int32) (x3 : Int32) (z : (Int32 × mh_H)), kB h x0 x1 x2 x3 = some z → mh_go P dB mX12_canHold 0 [some (.ref x0), some (.int x1), some (.int x2), some (.int x3), none, none, none] [] h (some (.int z.1)) z.2) {z : (Int32 × mh_H)} {h : mh_H} {l0 : Nat} {l1 : Int32} {l2 : Int32} {l3 : Int32} (hq : E_X12_canHold N kB h l0 l1 l2 l3 = some z) : mh_go P d mX12_canHold 0 [some (.ref l0), some (.int l1), some (.int l2), some (.int l3), none, none, none] [] h (some (.int z.1)) z.2 := by
  unfold E_X12_canHold at hq
  refine st_iload_n (pc := 0) dX12_canHold_0 rfl ?_
  refine bd_if_ne (pc := 1) (tgt := 6) hq dX12_canHold_1 (by decide) (fun _ hq => ?_) (fun _ hq => ?_)
  ·
    refine st_iconst (pc := 4) (v := (1 : Int32)) dX12_canHold_4 rfl ?_
    exact bd_zret (pc := 5) hq dX12_canHold_5 rfl
  ·
    refine st_iload_n (pc := 6) dX12_canHold_6 rfl ?_
    refine st_iload_n (pc := 7) dX12_canHold_7 rfl ?_
    refine st_ineg (pc := 8) dX12_canHold_8 ?_
    refine st_iand (pc := 9) dX12_canHold_9 ?_
    refine st_istore (pc := 10) (lv' := [some (.ref l0), some (.int l1), some (.int l2), some (.int l3), some (.int (l1 &&& (-l1))), none, none]) dX12_canHold_10 rfl (by decide) rfl ?_
    refine st_iconst (pc := 12) (v := (0 : Int32)) dX12_canHold_12 rfl ?_
    refine st_istore (pc := 13) (lv' := [some (.ref l0), some (.int l1), some (.int l2), some (.int l3), some (.int (l1 &&& (-l1))), some (.int (0 : Int32)), none]) dX12_canHold_13 rfl (by decide) rfl ?_
    refine st_iconst (pc := 15) (v := (1 : Int32)) dX12_canHold_15 rfl ?_
    refine st_istore (pc := 16) (lv' := [some (.ref l0), some (.int l1), some (.int l2), some (.int l3), some (.int (l1 &&& (-l1))), some (.int (0 : Int32)), some (.int (1 : Int32))]) dX12_canHold_16 rfl (by decide) rfl ?_
    exact T_X12_canHold_18 hd hdB hB N _ _ _ _ _ _ _ _ hq
def D_X12_canHold (N : Nat) : Nat → mh_H → Nat → Int32 → Int32 → Int32 → Option (Int32 × mh_H)
  | 0, _, _, _, _, _ => none
  | D + 1, h, l0, l1, l2, l3 => E_X12_canHold N (D_X12_canHold N D) h l0 l1 l2 l3
set_option maxHeartbeats 4000000 in
set_option maxRecDepth 100000 in
theorem T_X12_canHold {P : mh_E → Prop} {N : Nat} : ∀ (D d : Nat), 1 + 1 * D ≤ d → ∀ (h : mh_H) (l0 : Nat) (l1 : Int32) (l2 : Int32) (l3 : Int32) (z : (Int32 × mh_H)), D_X12_canHold N D h l0 l1 l2 l3 = some z → mh_go P d mX12_canHold 0 [some (.ref l0), some (.int l1), some (.int l2), some (.int l3), none, none, none] [] h (some (.int z.1)) z.2 := by
  intro D
  induction D with
  | zero => intro d hd h l0 l1 l2 l3 z hq; rw [D_X12_canHold] at hq; cases hq
  | succ D ih =>
    intro d hd h l0 l1 l2 l3 z hq
    rw [D_X12_canHold] at hq
    exact TE_X12_canHold (dB := 1 + 1 * D) (by omega) (by omega) (fun h l0 l1 l2 l3 z hq => ih _ (Nat.le_refl _) h l0 l1 l2 l3 z hq) hq
