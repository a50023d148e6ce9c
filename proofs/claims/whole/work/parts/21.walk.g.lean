-- HoleWater.hangs(IZ)I
theorem dX11_hangs_118 : decode cX11_hangs 118 = .ok (.iinc 5 1, 3) := by decide +kernel
theorem dX11_hangs_121 : decode cX11_hangs 121 = .ok (.goto (-82), 3) := by decide +kernel
theorem dX11_hangs_88 : decode cX11_hangs 88 = .ok (.istore 7, 2) := by decide +kernel
theorem dX11_hangs_90 : decode cX11_hangs 90 = .ok (.iload 7, 2) := by decide +kernel
theorem dX11_hangs_92 : decode cX11_hangs 92 = .ok (.ifCond .eq 26, 3) := by decide +kernel
theorem dX11_hangs_95 : decode cX11_hangs 95 = .ok (.iload_n 3, 1) := by decide +kernel
theorem dX11_hangs_96 : decode cX11_hangs 96 = .ok (.aload 6, 2) := by decide +kernel
theorem dX11_hangs_98 : decode cX11_hangs 98 = .ok (.getfield 150, 3) := by decide +kernel
theorem dX11_hangs_101 : decode cX11_hangs 101 = .ok (.invokestatic 105, 3) := by decide +kernel
theorem dX11_hangs_104 : decode cX11_hangs 104 = .ok (.iconst 1, 1) := by decide +kernel
theorem dX11_hangs_105 : decode cX11_hangs 105 = .ok (.if_icmp .ne 13, 3) := by decide +kernel
theorem dX11_hangs_108 : decode cX11_hangs 108 = .ok (.iload_n 3, 1) := by decide +kernel
theorem dX11_hangs_109 : decode cX11_hangs 109 = .ok (.iconst 1, 1) := by decide +kernel
theorem dX11_hangs_110 : decode cX11_hangs 110 = .ok (.aload 6, 2) := by decide +kernel
theorem dX11_hangs_112 : decode cX11_hangs 112 = .ok (.getfield 147, 3) := by decide +kernel
theorem dX11_hangs_115 : decode cX11_hangs 115 = .ok (.ishl, 1) := by decide +kernel
theorem dX11_hangs_116 : decode cX11_hangs 116 = .ok (.ior, 1) := by decide +kernel
theorem dX11_hangs_117 : decode cX11_hangs 117 = .ok (.istore_n 3, 1) := by decide +kernel
theorem dX11_hangs_83 : decode cX11_hangs 83 = .ok (.iconst 1, 1) := by decide +kernel
theorem dX11_hangs_84 : decode cX11_hangs 84 = .ok (.goto 4, 3) := by decide +kernel
theorem dX11_hangs_87 : decode cX11_hangs 87 = .ok (.iconst 0, 1) := by decide +kernel
theorem dX11_hangs_39 : decode cX11_hangs 39 = .ok (.iload 5, 2) := by decide +kernel
theorem dX11_hangs_41 : decode cX11_hangs 41 = .ok (.aload_n 0, 1) := by decide +kernel
theorem dX11_hangs_42 : decode cX11_hangs 42 = .ok (.getfield 12, 3) := by decide +kernel
theorem dX11_hangs_45 : decode cX11_hangs 45 = .ok (.getfield 116, 3) := by decide +kernel
theorem dX11_hangs_48 : decode cX11_hangs 48 = .ok (.if_icmp .ge 76, 3) := by decide +kernel
theorem dX11_hangs_124 : decode cX11_hangs 124 = .ok (.iinc 4 1, 3) := by decide +kernel
theorem dX11_hangs_127 : decode cX11_hangs 127 = .ok (.goto (-103), 3) := by decide +kernel
theorem dX11_hangs_51 : decode cX11_hangs 51 = .ok (.aload_n 0, 1) := by decide +kernel
theorem dX11_hangs_52 : decode cX11_hangs 52 = .ok (.getfield 12, 3) := by decide +kernel
theorem dX11_hangs_55 : decode cX11_hangs 55 = .ok (.getfield 130, 3) := by decide +kernel
theorem dX11_hangs_58 : decode cX11_hangs 58 = .ok (.iload 5, 2) := by decide +kernel
theorem dX11_hangs_60 : decode cX11_hangs 60 = .ok (.aaload, 1) := by decide +kernel
theorem dX11_hangs_61 : decode cX11_hangs 61 = .ok (.astore 6, 2) := by decide +kernel
theorem dX11_hangs_63 : decode cX11_hangs 63 = .ok (.aload 6, 2) := by decide +kernel
theorem dX11_hangs_65 : decode cX11_hangs 65 = .ok (.instanceof 162, 3) := by decide +kernel
theorem dX11_hangs_68 : decode cX11_hangs 68 = .ok (.ifCond .ne 19, 3) := by decide +kernel
theorem dX11_hangs_71 : decode cX11_hangs 71 = .ok (.iload_n 2, 1) := by decide +kernel
theorem dX11_hangs_72 : decode cX11_hangs 72 = .ok (.ifCond .ne 11, 3) := by decide +kernel
theorem dX11_hangs_75 : decode cX11_hangs 75 = .ok (.aload 6, 2) := by decide +kernel
theorem dX11_hangs_77 : decode cX11_hangs 77 = .ok (.instanceof 164, 3) := by decide +kernel
theorem dX11_hangs_80 : decode cX11_hangs 80 = .ok (.ifCond .ne 7, 3) := by decide +kernel
theorem dX11_hangs_24 : decode cX11_hangs 24 = .ok (.iload 4, 2) := by decide +kernel
theorem dX11_hangs_26 : decode cX11_hangs 26 = .ok (.aload_n 0, 1) := by decide +kernel
theorem dX11_hangs_27 : decode cX11_hangs 27 = .ok (.getfield 12, 3) := by decide +kernel
theorem dX11_hangs_30 : decode cX11_hangs 30 = .ok (.getfield 70, 3) := by decide +kernel
theorem dX11_hangs_33 : decode cX11_hangs 33 = .ok (.if_icmp .ge 97, 3) := by decide +kernel
theorem dX11_hangs_130 : decode cX11_hangs 130 = .ok (.iload_n 3, 1) := by decide +kernel
theorem dX11_hangs_131 : decode cX11_hangs 131 = .ok (.aload_n 0, 1) := by decide +kernel
theorem dX11_hangs_132 : decode cX11_hangs 132 = .ok (.getfield 12, 3) := by decide +kernel
theorem dX11_hangs_135 : decode cX11_hangs 135 = .ok (.iconst 0, 1) := by decide +kernel
theorem dX11_hangs_136 : decode cX11_hangs 136 = .ok (.invokevirtual 166, 3) := by decide +kernel
theorem dX11_hangs_139 : decode cX11_hangs 139 = .ok (.iand, 1) := by decide +kernel
theorem dX11_hangs_140 : decode cX11_hangs 140 = .ok (.ireturn, 1) := by decide +kernel
theorem dX11_hangs_36 : decode cX11_hangs 36 = .ok (.iconst 0, 1) := by decide +kernel
theorem dX11_hangs_37 : decode cX11_hangs 37 = .ok (.istore 5, 2) := by decide +kernel
theorem dX11_hangs_0 : decode cX11_hangs 0 = .ok (.aload_n 0, 1) := by decide +kernel
theorem dX11_hangs_1 : decode cX11_hangs 1 = .ok (.getfield 12, 3) := by decide +kernel
theorem dX11_hangs_4 : decode cX11_hangs 4 = .ok (.iload_n 1, 1) := by decide +kernel
theorem dX11_hangs_5 : decode cX11_hangs 5 = .ok (.invokevirtual 77, 3) := by decide +kernel
theorem dX11_hangs_8 : decode cX11_hangs 8 = .ok (.ifCond .ne 9, 3) := by decide +kernel
theorem dX11_hangs_11 : decode cX11_hangs 11 = .ok (.aload_n 0, 1) := by decide +kernel
theorem dX11_hangs_12 : decode cX11_hangs 12 = .ok (.iconst 1, 1) := by decide +kernel
theorem dX11_hangs_13 : decode cX11_hangs 13 = .ok (.invokevirtual 66, 3) := by decide +kernel
theorem dX11_hangs_16 : decode cX11_hangs 16 = .ok (.ireturn, 1) := by decide +kernel
theorem dX11_hangs_17 : decode cX11_hangs 17 = .ok (.iconst 1, 1) := by decide +kernel
theorem dX11_hangs_18 : decode cX11_hangs 18 = .ok (.iload_n 1, 1) := by decide +kernel
theorem dX11_hangs_19 : decode cX11_hangs 19 = .ok (.ishl, 1) := by decide +kernel
theorem dX11_hangs_20 : decode cX11_hangs 20 = .ok (.istore_n 3, 1) := by decide +kernel
theorem dX11_hangs_21 : decode cX11_hangs 21 = .ok (.iconst 0, 1) := by decide +kernel
theorem dX11_hangs_22 : decode cX11_hangs 22 = .ok (.istore 4, 2) := by decide +kernel
def D_X11_hangs_118 (N : Nat) (k24 : mh_H → Nat → Int32 → Int32 → Int32 → Option (Int32 × mh_H)) (k39 : mh_H → Nat → Int32 → Int32 → Int32 → Int32 → Option (Int32 × mh_H)) (h : mh_H) (l0 : Nat) (l2 : Int32) (l3 : Int32) (l4 : Int32) (l5 : Int32) : Option (Int32 × mh_H) :=
  k39 h l0 l2 l3 l4 (l5 + Int32.ofInt (1))
set_option maxHeartbeats 4000000 in
set_option maxRecDepth 100000 in
theorem T_X11_hangs_118 {P : mh_E → Prop} {N d : Nat} (hd : 3 ≤ d) {z : (Int32 × mh_H)} {k24 : mh_H → Nat → Int32 → Int32 → Int32 → Option (Int32 × mh_H)} (hk24 : ∀ (h : mh_H) (l0 : Nat) (l2 : Int32) (l3 : Int32) (l4 : Int32), k24 h l0 l2 l3 l4 = some z → mh_go P d mX11_hangs 24 [some (.ref l0), none, some (.int l2), some (.int l3), some (.int l4), none, none, none] [] h (some (.int z.1)) z.2) {k39 : mh_H → Nat → Int32 → Int32 → Int32 → Int32 → Option (Int32 × mh_H)} (hk39 : ∀ (h : mh_H) (l0 : Nat) (l2 : Int32) (l3 : Int32) (l4 : Int32) (l5 : Int32), k39 h l0 l2 l3 l4 l5 = some z → mh_go P d mX11_hangs 39 [some (.ref l0), none, some (.int l2), some (.int l3), some (.int l4), some (.int l5), none, none] [] h (some (.int z.1)) z.2) {h : mh_H} {l0 : Nat} {l2 : Int32} {l3 : Int32} {l4 : Int32} {l5 : Int32} (hq : D_X11_hangs_118 N k24 k39 h l0 l2 l3 l4 l5 = some z) : mh_go P d mX11_hangs 118 [some (.ref l0), none, some (.int l2), some (.int l3), some (.int l4), some (.int l5), none, none] [] h (some (.int z.1)) z.2 := by
  unfold D_X11_hangs_118 at hq
  refine st_iinc (pc := 118) (lv' := [some (.ref l0), none, some (.int l2), some (.int l3), some (.int l4), some (.int (l5 + Int32.ofInt (1))), none, none]) dX11_hangs_118 rfl rfl (by decide) rfl ?_
  refine st_goto (pc := 121) (tgt := 39) dX11_hangs_121 (by decide) ?_
  exact hk39 _ _ _ _ _ _ hq
def D_X11_hangs_88 (N : Nat) (k24 : mh_H → Nat → Int32 → Int32 → Int32 → Option (Int32 × mh_H)) (k39 : mh_H → Nat → Int32 → Int32 → Int32 → Int32 → Option (Int32 × mh_H)) (h : mh_H) (l0 : Nat) (l2 : Int32) (l3 : Int32) (l4 : Int32) (l5 : Int32) (l6 : Nat) (s0 : Int32) : Option (Int32 × mh_H) :=
  if s0 = 0 then (D_X11_hangs_118 N k24 k39 h l0 l2 l3 l4 l5)
  else ((gW h l6 1).bind fun v1 =>
  (D_X11_bit N h l3 v1).bind fun q2 =>
  if q2.1 = (1 : Int32) then ((gW q2.2 l6 0).bind fun v3 =>
  D_X11_hangs_118 N k24 k39 q2.2 l0 l2 (l3 ||| ((1 : Int32) <<< (v3 &&& 31))) l4 l5)
  else (D_X11_hangs_118 N k24 k39 q2.2 l0 l2 l3 l4 l5))
set_option maxHeartbeats 4000000 in
set_option maxRecDepth 100000 in
theorem T_X11_hangs_88 {P : mh_E → Prop} {N d : Nat} (hd : 3 ≤ d) {z : (Int32 × mh_H)} {k24 : mh_H → Nat → Int32 → Int32 → Int32 → Option (Int32 × mh_H)} (hk24 : ∀ (h : mh_H) (l0 : Nat) (l2 : Int32) (l3 : Int32) (l4 : Int32), k24 h l0 l2 l3 l4 = some z → mh_go P d mX11_hangs 24 [some (.ref l0), none, some (.int l2), some (.int l3), some (.int l4), none, none, none] [] h (some (.int z.1)) z.2) {k39 : mh_H → Nat → Int32 → Int32 → Int32 → Int32 → Option (Int32 × mh_H)} (hk39 : ∀ (h : mh_H) (l0 : Nat) (l2 : Int32) (l3 : Int32) (l4 : Int32) (l5 : Int32), k39 h l0 l2 l3 l4 l5 = some z → mh_go P d mX11_hangs 39 [some (.ref l0), none, some (.int l2), some (.int l3), some (.int l4), some (.int l5), none, none] [] h (some (.int z.1)) z.2) {h : mh_H} {l0 : Nat} {l2 : Int32} {l3 : Int32} {l4 : Int32} {l5 : Int32} {l6 : Nat} {s0 : Int32} (hq : D_X11_hangs_88 N k24 k39 h l0 l2 l3 l4 l5 l6 s0 = some z) : mh_go P d mX11_hangs 88 [some (.ref l0), none, some (.int l2), some (.int l3), some (.int l4), some (.int l5), some (.ref l6), none] [.int s0] h (some (.int z.1)) z.2 := by
  unfold D_X11_hangs_88 at hq
  refine st_istore (pc := 88) (lv' := [some (.ref l0), none, some (.int l2), some (.int l3), some (.int l4), some (.int l5), some (.ref l6), some (.int s0)]) dX11_hangs_88 rfl (by decide) rfl ?_
  refine st_iload (pc := 90) dX11_hangs_90 rfl ?_
  refine bd_if_eq (pc := 92) (tgt := 118) hq dX11_hangs_92 (by decide) (fun _ hq => ?_) (fun _ hq => ?_)
  ·
    refine st_lesS (lv' := [some (.ref l0), none, some (.int l2), some (.int l3), some (.int l4), some (.int l5), none, none]) ⟨Or.inr rfl, Or.inr rfl, Or.inr rfl, Or.inr rfl, Or.inr rfl, Or.inr rfl, Or.inl rfl, Or.inl rfl, trivial⟩ ?_
    exact T_X11_hangs_118 hd hk24 hk39 hq
  ·
    refine st_iload_n (pc := 95) dX11_hangs_95 rfl ?_
    refine st_aload (pc := 96) dX11_hangs_96 rfl ?_
    refine bd_getw (pc := 98) hq dX11_hangs_98 flw_11_150 (by decide) (fun v1 hq => ?_)
    obtain ⟨q2, e2, hq⟩ := mh_ob hq
    refine st_invS (pc := 101) (Y := mX11_bit) (vs := [.int l3, .int v1]) (rest := []) (st2 := [.int q2.1]) dX11_hangs_101 okX11_bit wd_343 wd_344 pdX11_bit rfl rfl rfl rfl (Nat.le_trans (by decide) hd) (Nat.le_of_ble_eq_true rfl) (T_X11_bit (Nat.le_refl _) e2) rfl ?_
    refine st_iconst (pc := 104) (v := (1 : Int32)) dX11_hangs_104 rfl ?_
    refine bd_icmp_ne (pc := 105) (tgt := 118) hq dX11_hangs_105 (by decide) (fun _ hq => ?_) (fun _ hq => ?_)
    ·
      refine st_iload_n (pc := 108) dX11_hangs_108 rfl ?_
      refine st_iconst (pc := 109) (v := (1 : Int32)) dX11_hangs_109 rfl ?_
      refine st_aload (pc := 110) dX11_hangs_110 rfl ?_
      refine bd_getw (pc := 112) hq dX11_hangs_112 flw_11_147 (by decide) (fun v3 hq => ?_)
      refine st_ishl (pc := 115) dX11_hangs_115 ?_
      refine st_ior (pc := 116) dX11_hangs_116 ?_
      refine st_istore_n (pc := 117) (lv' := [some (.ref l0), none, some (.int l2), some (.int (l3 ||| ((1 : Int32) <<< (v3 &&& 31)))), some (.int l4), some (.int l5), some (.ref l6), some (.int s0)]) dX11_hangs_117 rfl (by decide) rfl ?_
      refine st_lesS (lv' := [some (.ref l0), none, some (.int l2), some (.int (l3 ||| ((1 : Int32) <<< (v3 &&& 31)))), some (.int l4), some (.int l5), none, none]) ⟨Or.inr rfl, Or.inr rfl, Or.inr rfl, Or.inr rfl, Or.inr rfl, Or.inr rfl, Or.inl rfl, Or.inl rfl, trivial⟩ ?_
      exact T_X11_hangs_118 hd hk24 hk39 hq
    ·
      refine st_lesS (lv' := [some (.ref l0), none, some (.int l2), some (.int l3), some (.int l4), some (.int l5), none, none]) ⟨Or.inr rfl, Or.inr rfl, Or.inr rfl, Or.inr rfl, Or.inr rfl, Or.inr rfl, Or.inl rfl, Or.inl rfl, trivial⟩ ?_
      exact T_X11_hangs_118 hd hk24 hk39 hq
def D_X11_hangs_83 (N : Nat) (k24 : mh_H → Nat → Int32 → Int32 → Int32 → Option (Int32 × mh_H)) (k39 : mh_H → Nat → Int32 → Int32 → Int32 → Int32 → Option (Int32 × mh_H)) (h : mh_H) (l0 : Nat) (l2 : Int32) (l3 : Int32) (l4 : Int32) (l5 : Int32) (l6 : Nat) : Option (Int32 × mh_H) :=
  D_X11_hangs_88 N k24 k39 h l0 l2 l3 l4 l5 l6 (1 : Int32)
set_option maxHeartbeats 4000000 in
set_option maxRecDepth 100000 in
theorem T_X11_hangs_83 {P : mh_E → Prop} {N d : Nat} (hd : 3 ≤ d) {z : (Int32 × mh_H)} {k24 : mh_H → Nat → Int32 → Int32 → Int32 → Option (Int32 × mh_H)} (hk24 : ∀ (h : mh_H) (l0 : Nat) (l2 : Int32) (l3 : Int32) (l4 : Int32), k24 h l0 l2 l3 l4 = some z → mh_go P d mX11_hangs 24 [some (.ref l0), none, some (.int l2), some (.int l3), some (.int l4), none, none, none] [] h (some (.int z.1)) z.2) {k39 : mh_H → Nat → Int32 → Int32 → Int32 → Int32 → Option (Int32 × mh_H)} (hk39 : ∀ (h : mh_H) (l0 : Nat) (l2 : Int32) (l3 : Int32) (l4 : Int32) (l5 : Int32), k39 h l0 l2 l3 l4 l5 = some z → mh_go P d mX11_hangs 39 [some (.ref l0), none, some (.int l2), some (.int l3), some (.int l4), some (.int l5), none, none] [] h (some (.int z.1)) z.2) {h : mh_H} {l0 : Nat} {l2 : Int32} {l3 : Int32} {l4 : Int32} {l5 : Int32} {l6 : Nat} (hq : D_X11_hangs_83 N k24 k39 h l0 l2 l3 l4 l5 l6 = some z) : mh_go P d mX11_hangs 83 [some (.ref l0), none, some (.int l2), some (.int l3), some (.int l4), some (.int l5), some (.ref l6), none] [] h (some (.int z.1)) z.2 := by
  unfold D_X11_hangs_83 at hq
  refine st_iconst (pc := 83) (v := (1 : Int32)) dX11_hangs_83 rfl ?_
  refine st_goto (pc := 84) (tgt := 88) dX11_hangs_84 (by decide) ?_
  exact T_X11_hangs_88 hd hk24 hk39 hq
def D_X11_hangs_87 (N : Nat) (k24 : mh_H → Nat → Int32 → Int32 → Int32 → Option (Int32 × mh_H)) (k39 : mh_H → Nat → Int32 → Int32 → Int32 → Int32 → Option (Int32 × mh_H)) (h : mh_H) (l0 : Nat) (l2 : Int32) (l3 : Int32) (l4 : Int32) (l5 : Int32) (l6 : Nat) : Option (Int32 × mh_H) :=
  D_X11_hangs_88 N k24 k39 h l0 l2 l3 l4 l5 l6 (0 : Int32)
set_option maxHeartbeats 4000000 in
set_option maxRecDepth 100000 in
theorem T_X11_hangs_87 {P : mh_E → Prop} {N d : Nat} (hd : 3 ≤ d) {z : (Int32 × mh_H)} {k24 : mh_H → Nat → Int32 → Int32 → Int32 → Option (Int32 × mh_H)} (hk24 : ∀ (h : mh_H) (l0 : Nat) (l2 : Int32) (l3 : Int32) (l4 : Int32), k24 h l0 l2 l3 l4 = some z → mh_go P d mX11_hangs 24 [some (.ref l0), none, some (.int l2), some (.int l3), some (.int l4), none, none, none] [] h (some (.int z.1)) z.2) {k39 : mh_H → Nat → Int32 → Int32 → Int32 → Int32 → Option (Int32 × mh_H)} (hk39 : ∀ (h : mh_H) (l0 : Nat) (l2 : Int32) (l3 : Int32) (l4 : Int32) (l5 : Int32), k39 h l0 l2 l3 l4 l5 = some z → mh_go P d mX11_hangs 39 [some (.ref l0), none, some (.int l2), some (.int l3), some (.int l4), some (.int l5), none, none] [] h (some (.int z.1)) z.2) {h : mh_H} {l0 : Nat} {l2 : Int32} {l3 : Int32} {l4 : Int32} {l5 : Int32} {l6 : Nat} (hq : D_X11_hangs_87 N k24 k39 h l0 l2 l3 l4 l5 l6 = some z) : mh_go P d mX11_hangs 87 [some (.ref l0), none, some (.int l2), some (.int l3), some (.int l4), some (.int l5), some (.ref l6), none] [] h (some (.int z.1)) z.2 := by
  unfold D_X11_hangs_87 at hq
  refine st_iconst (pc := 87) (v := (0 : Int32)) dX11_hangs_87 rfl ?_
  exact T_X11_hangs_88 hd hk24 hk39 hq
def D_X11_hangs_39 (N : Nat) (k24 : mh_H → Nat → Int32 → Int32 → Int32 → Option (Int32 × mh_H)) : Nat → mh_H → Nat → Int32 → Int32 → Int32 → Int32 → Option (Int32 × mh_H)
  | 0, _, _, _, _, _, _ => none
  | F + 1, h, l0, l2, l3, l4, l5 =>
    (gR h 11 l0 0).bind fun v1 =>
    (gI h 10 v1 1).bind fun v2 =>
    if v2 ≤ l5 then (k24 h l0 l2 l3 (l4 + Int32.ofInt (1)))
    else ((gR h 11 l0 0).bind fun v3 =>
    (gR h 10 v3 6).bind fun v4 =>
    (aR h v4 l5).bind fun v5 =>
    (iK h v5 0).bind fun v6 =>
    if v6 = 0 then (if l2 = 0 then ((iK h v5 3).bind fun v7 =>
    if v7 = 0 then (D_X11_hangs_83 N k24 (D_X11_hangs_39 N k24 F) h l0 l2 l3 l4 l5 v5)
    else (D_X11_hangs_87 N k24 (D_X11_hangs_39 N k24 F) h l0 l2 l3 l4 l5 v5))
    else (D_X11_hangs_83 N k24 (D_X11_hangs_39 N k24 F) h l0 l2 l3 l4 l5 v5))
    else (D_X11_hangs_87 N k24 (D_X11_hangs_39 N k24 F) h l0 l2 l3 l4 l5 v5))
set_option maxHeartbeats 4000000 in
set_option maxRecDepth 100000 in
theorem T_X11_hangs_39 {P : mh_E → Prop} {N d : Nat} (hd : 3 ≤ d) {z : (Int32 × mh_H)} {k24 : mh_H → Nat → Int32 → Int32 → Int32 → Option (Int32 × mh_H)} (hk24 : ∀ (h : mh_H) (l0 : Nat) (l2 : Int32) (l3 : Int32) (l4 : Int32), k24 h l0 l2 l3 l4 = some z → mh_go P d mX11_hangs 24 [some (.ref l0), none, some (.int l2), some (.int l3), some (.int l4), none, none, none] [] h (some (.int z.1)) z.2) : ∀ (F : Nat) (h : mh_H) (l0 : Nat) (l2 : Int32) (l3 : Int32) (l4 : Int32) (l5 : Int32), D_X11_hangs_39 N k24 F h l0 l2 l3 l4 l5 = some z → mh_go P d mX11_hangs 39 [some (.ref l0), none, some (.int l2), some (.int l3), some (.int l4), some (.int l5), none, none] [] h (some (.int z.1)) z.2 := by
  intro F
  induction F with
  | zero => intro h l0 l2 l3 l4 l5 hq; rw [D_X11_hangs_39] at hq; cases hq
  | succ F ih =>
    intro h l0 l2 l3 l4 l5 hq
    rw [D_X11_hangs_39] at hq
    refine st_iload (pc := 39) dX11_hangs_39 rfl ?_
    refine st_aload_n (pc := 41) dX11_hangs_41 rfl ?_
    refine bd_getr (pc := 42) hq dX11_hangs_42 fl_11_12_11 rfl (fun v1 hq => ?_)
    refine bd_geti (pc := 45) hq dX11_hangs_45 fl_11_116_10 rfl (fun v2 hq => ?_)
    refine bd_icmp_ge (pc := 48) (tgt := 124) hq dX11_hangs_48 (by decide) (fun _ hq => ?_) (fun _ hq => ?_)
    ·
      refine st_iinc (pc := 124) (lv' := [some (.ref l0), none, some (.int l2), some (.int l3), some (.int (l4 + Int32.ofInt (1))), some (.int l5), none, none]) dX11_hangs_124 rfl rfl (by decide) rfl ?_
      refine st_goto (pc := 127) (tgt := 24) dX11_hangs_127 (by decide) ?_
      refine st_lesS (lv' := [some (.ref l0), none, some (.int l2), some (.int l3), some (.int (l4 + Int32.ofInt (1))), none, none, none]) ⟨Or.inr rfl, Or.inr rfl, Or.inr rfl, Or.inr rfl, Or.inr rfl, Or.inl rfl, Or.inr rfl, Or.inr rfl, trivial⟩ ?_
      exact hk24 _ _ _ _ _ hq
    ·
      refine st_aload_n (pc := 51) dX11_hangs_51 rfl ?_
      refine bd_getr (pc := 52) hq dX11_hangs_52 fl_11_12_11 rfl (fun v3 hq => ?_)
      refine bd_getr (pc := 55) hq dX11_hangs_55 fl_11_130_10 rfl (fun v4 hq => ?_)
      refine st_iload (pc := 58) dX11_hangs_58 rfl ?_
      refine bd_aald (pc := 60) hq dX11_hangs_60 (fun v5 hq => ?_)
      refine st_astore (pc := 61) (lv' := [some (.ref l0), none, some (.int l2), some (.int l3), some (.int l4), some (.int l5), some (.ref v5), none]) dX11_hangs_61 rfl (by decide) rfl ?_
      refine st_aload (pc := 63) dX11_hangs_63 rfl ?_
      refine bd_inst (pc := 65) hq dX11_hangs_65 wd_407 mh_instY0 mh_instN0 (fun v6 hq => ?_)
      refine bd_if_ne (pc := 68) (tgt := 87) hq dX11_hangs_68 (by decide) (fun _ hq => ?_) (fun _ hq => ?_)
      ·
        refine st_iload_n (pc := 71) dX11_hangs_71 rfl ?_
        refine bd_if_ne (pc := 72) (tgt := 83) hq dX11_hangs_72 (by decide) (fun _ hq => ?_) (fun _ hq => ?_)
        ·
          refine st_aload (pc := 75) dX11_hangs_75 rfl ?_
          refine bd_inst (pc := 77) hq dX11_hangs_77 wd_385 mh_instY3 mh_instN3 (fun v7 hq => ?_)
          refine bd_if_ne (pc := 80) (tgt := 87) hq dX11_hangs_80 (by decide) (fun _ hq => ?_) (fun _ hq => ?_)
          ·
            exact T_X11_hangs_83 hd hk24 ih hq
          ·
            exact T_X11_hangs_87 hd hk24 ih hq
        ·
          exact T_X11_hangs_83 hd hk24 ih hq
      ·
        exact T_X11_hangs_87 hd hk24 ih hq
def D_X11_hangs_24 (N : Nat) : Nat → mh_H → Nat → Int32 → Int32 → Int32 → Option (Int32 × mh_H)
  | 0, _, _, _, _, _ => none
  | F + 1, h, l0, l2, l3, l4 =>
    (gR h 11 l0 0).bind fun v1 =>
    (gI h 10 v1 0).bind fun v2 =>
    if v2 ≤ l4 then ((gR h 11 l0 0).bind fun v3 =>
    kO h 10 v3 <|
    (D_X10_bitsOf N h v3 (0 : Int32)).bind fun q4 =>
    some (l3 &&& q4.1, q4.2))
    else (D_X11_hangs_39 N (D_X11_hangs_24 N F) N h l0 l2 l3 l4 (0 : Int32))
set_option maxHeartbeats 4000000 in
set_option maxRecDepth 100000 in
theorem T_X11_hangs_24 {P : mh_E → Prop} {N d : Nat} (hd : 3 ≤ d) {z : (Int32 × mh_H)} : ∀ (F : Nat) (h : mh_H) (l0 : Nat) (l2 : Int32) (l3 : Int32) (l4 : Int32), D_X11_hangs_24 N F h l0 l2 l3 l4 = some z → mh_go P d mX11_hangs 24 [some (.ref l0), none, some (.int l2), some (.int l3), some (.int l4), none, none, none] [] h (some (.int z.1)) z.2 := by
  intro F
  induction F with
  | zero => intro h l0 l2 l3 l4 hq; rw [D_X11_hangs_24] at hq; cases hq
  | succ F ih =>
    intro h l0 l2 l3 l4 hq
    rw [D_X11_hangs_24] at hq
    refine st_iload (pc := 24) dX11_hangs_24 rfl ?_
    refine st_aload_n (pc := 26) dX11_hangs_26 rfl ?_
    refine bd_getr (pc := 27) hq dX11_hangs_27 fl_11_12_11 rfl (fun v1 hq => ?_)
    refine bd_geti (pc := 30) hq dX11_hangs_30 fl_11_70_10 rfl (fun v2 hq => ?_)
    refine bd_icmp_ge (pc := 33) (tgt := 130) hq dX11_hangs_33 (by decide) (fun _ hq => ?_) (fun _ hq => ?_)
    ·
      refine st_iload_n (pc := 130) dX11_hangs_130 rfl ?_
      refine st_aload_n (pc := 131) dX11_hangs_131 rfl ?_
      refine bd_getr (pc := 132) hq dX11_hangs_132 fl_11_12_11 rfl (fun v3 hq => ?_)
      refine st_iconst (pc := 135) (v := (0 : Int32)) dX11_hangs_135 rfl ?_
      obtain ⟨⟨hbq4, hkq4⟩, hq⟩ := mh_oi hq
      obtain ⟨q4, e4, hq⟩ := mh_ob hq
      refine st_invV (pc := 136) (ci := 10) (vs := [.int (0 : Int32)]) (rest := [.int l3]) (st2 := [.int q4.1, .int l3]) dX11_hangs_136 okX10_bitsOf (by decide) hkq4 hbq4 wd_483 wd_484 wd_485 pdX10_bitsOf rfl rfl rfl rfl (Nat.le_trans (by decide) hd) (Nat.le_of_ble_eq_true rfl) (T_X10_bitsOf (Nat.le_refl _) e4) rfl ?_
      refine st_iand (pc := 139) dX11_hangs_139 ?_
      exact bd_iret (pc := 140) hq dX11_hangs_140 rfl
    ·
      refine st_iconst (pc := 36) (v := (0 : Int32)) dX11_hangs_36 rfl ?_
      refine st_istore (pc := 37) (lv' := [some (.ref l0), none, some (.int l2), some (.int l3), some (.int l4), some (.int (0 : Int32)), none, none]) dX11_hangs_37 rfl (by decide) rfl ?_
      exact T_X11_hangs_39 hd ih N _ _ _ _ _ _ hq
def D_X11_hangs (N : Nat) (h : mh_H) (l0 : Nat) (l1 : Int32) (l2 : Int32) : Option (Int32 × mh_H) :=
  (gR h 11 l0 0).bind fun v1 =>
  kO h 10 v1 <|
  (D_X10_isJoint N h v1 l1).bind fun q2 =>
  if q2.1 = 0 then (kO q2.2 11 l0 <|
  (D_X11_error N q2.2 l0 (1 : Int32)).bind fun q3 =>
  some (q3.1, q3.2))
  else (D_X11_hangs_24 N N q2.2 l0 l2 ((1 : Int32) <<< (l1 &&& 31)) (0 : Int32))
set_option maxHeartbeats 4000000 in
set_option maxRecDepth 100000 in
theorem T_X11_hangs {P : mh_E → Prop} {N d : Nat} (hd : 3 ≤ d) {z : (Int32 × mh_H)} {h : mh_H} {l0 : Nat} {l1 : Int32} {l2 : Int32} (hq : D_X11_hangs N h l0 l1 l2 = some z) : mh_go P d mX11_hangs 0 [some (.ref l0), some (.int l1), some (.int l2), none, none, none, none, none] [] h (some (.int z.1)) z.2 := by
  unfold D_X11_hangs at hq
  refine st_aload_n (pc := 0) dX11_hangs_0 rfl ?_
  refine bd_getr (pc := 1) hq dX11_hangs_1 fl_11_12_11 rfl (fun v1 hq => ?_)
  refine st_iload_n (pc := 4) dX11_hangs_4 rfl ?_
  obtain ⟨⟨hbq2, hkq2⟩, hq⟩ := mh_oi hq
  obtain ⟨q2, e2, hq⟩ := mh_ob hq
  refine st_invV (pc := 5) (ci := 10) (vs := [.int l1]) (rest := []) (st2 := [.int q2.1]) dX11_hangs_5 okX10_isJoint (by decide) hkq2 hbq2 wd_339 wd_340 wd_341 pdX10_isJoint rfl rfl rfl rfl (Nat.le_trans (by decide) hd) (Nat.le_of_ble_eq_true rfl) (T_X10_isJoint (Nat.le_refl _) e2) rfl ?_
  refine bd_if_ne (pc := 8) (tgt := 17) hq dX11_hangs_8 (by decide) (fun _ hq => ?_) (fun _ hq => ?_)
  ·
    refine st_aload_n (pc := 11) dX11_hangs_11 rfl ?_
    refine st_iconst (pc := 12) (v := (1 : Int32)) dX11_hangs_12 rfl ?_
    obtain ⟨⟨hbq3, hkq3⟩, hq⟩ := mh_oi hq
    obtain ⟨q3, e3, hq⟩ := mh_ob hq
    refine st_invV (pc := 13) (ci := 11) (vs := [.int (1 : Int32)]) (rest := []) (st2 := [.int q3.1]) dX11_hangs_13 okX11_error (by decide) hkq3 hbq3 wd_326 wd_328 wp_0 pdX11_error rfl rfl rfl rfl (Nat.le_trans (by decide) hd) (Nat.le_of_ble_eq_true rfl) (T_X11_error (Nat.le_refl _) e3) rfl ?_
    exact bd_iret (pc := 16) hq dX11_hangs_16 rfl
  ·
    refine st_iconst (pc := 17) (v := (1 : Int32)) dX11_hangs_17 rfl ?_
    refine st_iload_n (pc := 18) dX11_hangs_18 rfl ?_
    refine st_ishl (pc := 19) dX11_hangs_19 ?_
    refine st_istore_n (pc := 20) (lv' := [some (.ref l0), some (.int l1), some (.int l2), some (.int ((1 : Int32) <<< (l1 &&& 31))), none, none, none, none]) dX11_hangs_20 rfl (by decide) rfl ?_
    refine st_iconst (pc := 21) (v := (0 : Int32)) dX11_hangs_21 rfl ?_
    refine st_istore (pc := 22) (lv' := [some (.ref l0), some (.int l1), some (.int l2), some (.int ((1 : Int32) <<< (l1 &&& 31))), some (.int (0 : Int32)), none, none, none]) dX11_hangs_22 rfl (by decide) rfl ?_
    refine st_lesS (lv' := [some (.ref l0), none, some (.int l2), some (.int ((1 : Int32) <<< (l1 &&& 31))), some (.int (0 : Int32)), none, none, none]) ⟨Or.inr rfl, Or.inl rfl, Or.inr rfl, Or.inr rfl, Or.inr rfl, Or.inr rfl, Or.inr rfl, Or.inr rfl, trivial⟩ ?_
    exact T_X11_hangs_24 hd N _ _ _ _ _ hq
-- HoleWater.goAlong(LHoleWater$Way;)V
theorem dX11_goAlong_60 : decode cX11_goAlong 60 = .ok (.aload_n 0, 1) := by decide +kernel
theorem dX11_goAlong_61 : decode cX11_goAlong 61 = .ok (.getfield 55, 3) := by decide +kernel
theorem dX11_goAlong_64 : decode cX11_goAlong 64 = .ok (.aload_n 1, 1) := by decide +kernel
theorem dX11_goAlong_65 : decode cX11_goAlong 65 = .ok (.getfield 150, 3) := by decide +kernel
theorem dX11_goAlong_68 : decode cX11_goAlong 68 = .ok (.iload_n 2, 1) := by decide +kernel
theorem dX11_goAlong_69 : decode cX11_goAlong 69 = .ok (.iastore, 1) := by decide +kernel
theorem dX11_goAlong_70 : decode cX11_goAlong 70 = .ok (.return_, 1) := by decide +kernel
theorem dX11_goAlong_0 : decode cX11_goAlong 0 = .ok (.aload_n 1, 1) := by decide +kernel
theorem dX11_goAlong_1 : decode cX11_goAlong 1 = .ok (.instanceof 162, 3) := by decide +kernel
theorem dX11_goAlong_4 : decode cX11_goAlong 4 = .ok (.ifCond .ne 15, 3) := by decide +kernel
theorem dX11_goAlong_7 : decode cX11_goAlong 7 = .ok (.aload_n 0, 1) := by decide +kernel
theorem dX11_goAlong_8 : decode cX11_goAlong 8 = .ok (.getfield 55, 3) := by decide +kernel
theorem dX11_goAlong_11 : decode cX11_goAlong 11 = .ok (.aload_n 1, 1) := by decide +kernel
theorem dX11_goAlong_12 : decode cX11_goAlong 12 = .ok (.getfield 147, 3) := by decide +kernel
theorem dX11_goAlong_15 : decode cX11_goAlong 15 = .ok (.iaload, 1) := by decide +kernel
theorem dX11_goAlong_16 : decode cX11_goAlong 16 = .ok (.ifCond .ge 4, 3) := by decide +kernel
theorem dX11_goAlong_20 : decode cX11_goAlong 20 = .ok (.aload_n 0, 1) := by decide +kernel
theorem dX11_goAlong_21 : decode cX11_goAlong 21 = .ok (.getfield 55, 3) := by decide +kernel
theorem dX11_goAlong_24 : decode cX11_goAlong 24 = .ok (.aload_n 1, 1) := by decide +kernel
theorem dX11_goAlong_25 : decode cX11_goAlong 25 = .ok (.getfield 147, 3) := by decide +kernel
theorem dX11_goAlong_28 : decode cX11_goAlong 28 = .ok (.iaload, 1) := by decide +kernel
theorem dX11_goAlong_29 : decode cX11_goAlong 29 = .ok (.aload_n 1, 1) := by decide +kernel
theorem dX11_goAlong_30 : decode cX11_goAlong 30 = .ok (.invokevirtual 138, 3) := by decide +kernel
theorem dX11_goAlong_33 : decode cX11_goAlong 33 = .ok (.iadd, 1) := by decide +kernel
theorem dX11_goAlong_34 : decode cX11_goAlong 34 = .ok (.istore_n 2, 1) := by decide +kernel
theorem dX11_goAlong_35 : decode cX11_goAlong 35 = .ok (.aload_n 0, 1) := by decide +kernel
theorem dX11_goAlong_36 : decode cX11_goAlong 36 = .ok (.getfield 55, 3) := by decide +kernel
theorem dX11_goAlong_39 : decode cX11_goAlong 39 = .ok (.aload_n 1, 1) := by decide +kernel
theorem dX11_goAlong_40 : decode cX11_goAlong 40 = .ok (.getfield 150, 3) := by decide +kernel
theorem dX11_goAlong_43 : decode cX11_goAlong 43 = .ok (.iaload, 1) := by decide +kernel
theorem dX11_goAlong_44 : decode cX11_goAlong 44 = .ok (.ifCond .lt 16, 3) := by decide +kernel
theorem dX11_goAlong_47 : decode cX11_goAlong 47 = .ok (.iload_n 2, 1) := by decide +kernel
theorem dX11_goAlong_48 : decode cX11_goAlong 48 = .ok (.aload_n 0, 1) := by decide +kernel
theorem dX11_goAlong_49 : decode cX11_goAlong 49 = .ok (.getfield 55, 3) := by decide +kernel
theorem dX11_goAlong_52 : decode cX11_goAlong 52 = .ok (.aload_n 1, 1) := by decide +kernel
theorem dX11_goAlong_53 : decode cX11_goAlong 53 = .ok (.getfield 150, 3) := by decide +kernel
theorem dX11_goAlong_56 : decode cX11_goAlong 56 = .ok (.iaload, 1) := by decide +kernel
theorem dX11_goAlong_57 : decode cX11_goAlong 57 = .ok (.if_icmp .ge 13, 3) := by decide +kernel
theorem dX11_goAlong_19 : decode cX11_goAlong 19 = .ok (.return_, 1) := by decide +kernel
set_option maxHeartbeats 4000000 in
set_option maxRecDepth 100000 in
theorem S_X11_goAlong_30 {P : mh_E → Prop} {N d : Nat} {lv : List (Option Value)} {rest : List Value} {h : mh_H} {b : Nat} {q : (Int32 × mh_H)} {r : Option Value} {h' : mh_H} (hd : 3 ≤ d) (hW : (rest.map fun v => v.category).sum ≤ 8) (e : V_Way_takes N h b = some q) (k : mh_go P d mX11_goAlong 33 lv (.int q.1 :: rest) q.2 r h') : mh_go P d mX11_goAlong 30 lv (.ref b :: rest) h r h' := by
  unfold V_Way_takes at e
  rcases mh_or e with ⟨⟨hb, hk⟩, e⟩ | ⟨-, e⟩
  · exact st_invV (pc := 30) (ci := 9) (vs := []) dX11_goAlong_30 okX9_takes (by decide) hk hb wd_435 wd_436 wd_437 pdX9_takes rfl rfl rfl rfl (Nat.le_trans (by decide) hd) hW (T_X9_takes (Nat.le_refl _) e) rfl k
  rcases mh_or e with ⟨⟨hb, hk⟩, e⟩ | ⟨-, e⟩
  · exact st_invU (pc := 30) (ci := 0) (owner := "HoleWater$Way") (x := ⟨"HoleWater$Way", "takes", "()I"⟩) (vs := []) dX11_goAlong_30 okX7_takes (by decide) hk hb wd_435 wd_438 wd_436 wd_450 wd_440 wd_439 ⟨by decide, by decide⟩ pdX7_takes rfl rfl rfl rfl (Nat.le_trans (by decide) hd) hW (T_X7_takes (Nat.le_refl _) e) rfl k
  rcases mh_or e with ⟨⟨hb, hk⟩, e⟩ | ⟨-, e⟩
  · exact st_invU (pc := 30) (ci := 2) (owner := "HoleWater$Way") (x := ⟨"HoleWater$Way", "takes", "()I"⟩) (vs := []) dX11_goAlong_30 okX2_takes (by decide) hk hb wd_435 wd_438 wd_436 wd_450 wd_444 wd_443 ⟨by decide, by decide⟩ pdX2_takes rfl rfl rfl rfl (Nat.le_trans (by decide) hd) hW (T_X2_takes (Nat.le_refl _) e) rfl k
  rcases mh_or e with ⟨⟨hb, hk⟩, e⟩ | ⟨-, e⟩
  · exact st_invU (pc := 30) (ci := 3) (owner := "HoleWater$Way") (x := ⟨"HoleWater$Way", "takes", "()I"⟩) (vs := []) dX11_goAlong_30 okX2_takes (by decide) hk hb wd_435 wd_438 wd_436 wd_450 wd_444 wd_447 ⟨by decide, by decide⟩ pdX2_takes rfl rfl rfl rfl (Nat.le_trans (by decide) hd) hW (T_X2_takes (Nat.le_refl _) e) rfl k
  rcases mh_or e with ⟨⟨hb, hk⟩, e⟩ | ⟨-, e⟩
  · exact st_invV (pc := 30) (ci := 4) (vs := []) dX11_goAlong_30 okX9_takes (by decide) hk hb wd_435 wd_436 wd_448 pdX9_takes rfl rfl rfl rfl (Nat.le_trans (by decide) hd) hW (T_X9_takes (Nat.le_refl _) e) rfl k
  rcases mh_or e with ⟨⟨hb, hk⟩, e⟩ | ⟨-, e⟩
  · exact st_invU (pc := 30) (ci := 7) (owner := "HoleWater$Way") (x := ⟨"HoleWater$Way", "takes", "()I"⟩) (vs := []) dX11_goAlong_30 okX7_takes (by decide) hk hb wd_435 wd_438 wd_436 wd_450 wd_440 wd_449 ⟨by decide, by decide⟩ pdX7_takes rfl rfl rfl rfl (Nat.le_trans (by decide) hd) hW (T_X7_takes (Nat.le_refl _) e) rfl k
  cases e
def D_X11_goAlong_60 (N : Nat) (h : mh_H) (l0 : Nat) (l1 : Nat) (l2 : Int32) : Option mh_H :=
  (gR h 11 l0 9).bind fun v1 =>
  (gW h l1 1).bind fun v2 =>
  (uI h v1 v2 l2).bind fun h3 =>
  some h3
set_option maxHeartbeats 4000000 in
set_option maxRecDepth 100000 in
theorem T_X11_goAlong_60 {P : mh_E → Prop} {N d : Nat} (hd : 3 ≤ d) {z : mh_H} {h : mh_H} {l0 : Nat} {l1 : Nat} {l2 : Int32} (hq : D_X11_goAlong_60 N h l0 l1 l2 = some z) : mh_go P d mX11_goAlong 60 [some (.ref l0), some (.ref l1), some (.int l2)] [] h none z := by
  unfold D_X11_goAlong_60 at hq
  refine st_aload_n (pc := 60) dX11_goAlong_60 rfl ?_
  refine bd_getr (pc := 61) hq dX11_goAlong_61 fl_11_55_11 rfl (fun v1 hq => ?_)
  refine st_aload_n (pc := 64) dX11_goAlong_64 rfl ?_
  refine bd_getw (pc := 65) hq dX11_goAlong_65 flw_11_150 (by decide) (fun v2 hq => ?_)
  refine st_iload_n (pc := 68) dX11_goAlong_68 rfl ?_
  refine bd_iast (pc := 69) hq dX11_goAlong_69 (fun h3 hq => ?_)
  exact bd_vret (pc := 70) hq dX11_goAlong_70 rfl
def D_X11_goAlong (N : Nat) (h : mh_H) (l0 : Nat) (l1 : Nat) : Option mh_H :=
  (iK h l1 0).bind fun v1 =>
  if v1 = 0 then ((gR h 11 l0 9).bind fun v2 =>
  (gW h l1 0).bind fun v3 =>
  (aI h v2 v3).bind fun v4 =>
  if 0 ≤ v4 then ((gR h 11 l0 9).bind fun v5 =>
  (gW h l1 0).bind fun v6 =>
  (aI h v5 v6).bind fun v7 =>
  (V_Way_takes N h l1).bind fun q8 =>
  (gR q8.2 11 l0 9).bind fun v9 =>
  (gW q8.2 l1 1).bind fun v10 =>
  (aI q8.2 v9 v10).bind fun v11 =>
  if v11 < 0 then (D_X11_goAlong_60 N q8.2 l0 l1 (v7 + q8.1))
  else ((gR q8.2 11 l0 9).bind fun v12 =>
  (gW q8.2 l1 1).bind fun v13 =>
  (aI q8.2 v12 v13).bind fun v14 =>
  if v14 ≤ (v7 + q8.1) then (some q8.2)
  else (D_X11_goAlong_60 N q8.2 l0 l1 (v7 + q8.1))))
  else (some h))
  else (some h)
set_option maxHeartbeats 4000000 in
set_option maxRecDepth 100000 in
theorem T_X11_goAlong {P : mh_E → Prop} {N d : Nat} (hd : 3 ≤ d) {z : mh_H} {h : mh_H} {l0 : Nat} {l1 : Nat} (hq : D_X11_goAlong N h l0 l1 = some z) : mh_go P d mX11_goAlong 0 [some (.ref l0), some (.ref l1), none] [] h none z := by
  unfold D_X11_goAlong at hq
  refine st_aload_n (pc := 0) dX11_goAlong_0 rfl ?_
  refine bd_inst (pc := 1) hq dX11_goAlong_1 wd_407 mh_instY0 mh_instN0 (fun v1 hq => ?_)
  refine bd_if_ne (pc := 4) (tgt := 19) hq dX11_goAlong_4 (by decide) (fun _ hq => ?_) (fun _ hq => ?_)
  ·
    refine st_aload_n (pc := 7) dX11_goAlong_7 rfl ?_
    refine bd_getr (pc := 8) hq dX11_goAlong_8 fl_11_55_11 rfl (fun v2 hq => ?_)
    refine st_aload_n (pc := 11) dX11_goAlong_11 rfl ?_
    refine bd_getw (pc := 12) hq dX11_goAlong_12 flw_11_147 (by decide) (fun v3 hq => ?_)
    refine bd_iald (pc := 15) hq dX11_goAlong_15 (fun v4 hq => ?_)
    refine bd_if_ge (pc := 16) (tgt := 20) hq dX11_goAlong_16 (by decide) (fun _ hq => ?_) (fun _ hq => ?_)
    ·
      refine st_aload_n (pc := 20) dX11_goAlong_20 rfl ?_
      refine bd_getr (pc := 21) hq dX11_goAlong_21 fl_11_55_11 rfl (fun v5 hq => ?_)
      refine st_aload_n (pc := 24) dX11_goAlong_24 rfl ?_
      refine bd_getw (pc := 25) hq dX11_goAlong_25 flw_11_147 (by decide) (fun v6 hq => ?_)
      refine bd_iald (pc := 28) hq dX11_goAlong_28 (fun v7 hq => ?_)
      refine st_aload_n (pc := 29) dX11_goAlong_29 rfl ?_
      obtain ⟨q8, e8, hq⟩ := mh_ob hq
      refine S_X11_goAlong_30 (rest := [.int v7]) hd (Nat.le_of_ble_eq_true rfl) e8 ?_
      refine st_iadd (pc := 33) dX11_goAlong_33 ?_
      refine st_istore_n (pc := 34) (lv' := [some (.ref l0), some (.ref l1), some (.int (v7 + q8.1))]) dX11_goAlong_34 rfl (by decide) rfl ?_
      refine st_aload_n (pc := 35) dX11_goAlong_35 rfl ?_
      refine bd_getr (pc := 36) hq dX11_goAlong_36 fl_11_55_11 rfl (fun v9 hq => ?_)
      refine st_aload_n (pc := 39) dX11_goAlong_39 rfl ?_
      refine bd_getw (pc := 40) hq dX11_goAlong_40 flw_11_150 (by decide) (fun v10 hq => ?_)
      refine bd_iald (pc := 43) hq dX11_goAlong_43 (fun v11 hq => ?_)
      refine bd_if_lt (pc := 44) (tgt := 60) hq dX11_goAlong_44 (by decide) (fun _ hq => ?_) (fun _ hq => ?_)
      ·
        exact T_X11_goAlong_60 hd hq
      ·
        refine st_iload_n (pc := 47) dX11_goAlong_47 rfl ?_
        refine st_aload_n (pc := 48) dX11_goAlong_48 rfl ?_
        refine bd_getr (pc := 49) hq dX11_goAlong_49 fl_11_55_11 rfl (fun v12 hq => ?_)
        refine st_aload_n (pc := 52) dX11_goAlong_52 rfl ?_
        refine bd_getw (pc := 53) hq dX11_goAlong_53 flw_11_150 (by decide) (fun v13 hq => ?_)
        refine bd_iald (pc := 56) hq dX11_goAlong_56 (fun v14 hq => ?_)
        refine bd_icmp_ge (pc := 57) (tgt := 70) hq dX11_goAlong_57 (by decide) (fun _ hq => ?_) (fun _ hq => ?_)
        ·
          exact bd_vret (pc := 70) hq dX11_goAlong_70 rfl
        ·
          exact T_X11_goAlong_60 hd hq
    ·
      exact bd_vret (pc := 19) hq dX11_goAlong_19 rfl
  ·
    exact bd_vret (pc := 19) hq dX11_goAlong_19 rfl
-- java/util/Arrays.fill([II)V
theorem dJ7_fill_53178_5 : decode cJ7_fill_53178 5 = .ok (.iload_n 2, 1) := by decide +kernel
theorem dJ7_fill_53178_6 : decode cJ7_fill_53178 6 = .ok (.iload_n 3, 1) := by decide +kernel
theorem dJ7_fill_53178_7 : decode cJ7_fill_53178 7 = .ok (.if_icmp .ge 13, 3) := by decide +kernel
theorem dJ7_fill_53178_20 : decode cJ7_fill_53178 20 = .ok (.return_, 1) := by decide +kernel
theorem dJ7_fill_53178_10 : decode cJ7_fill_53178 10 = .ok (.aload_n 0, 1) := by decide +kernel
theorem dJ7_fill_53178_11 : decode cJ7_fill_53178 11 = .ok (.iload_n 2, 1) := by decide +kernel
theorem dJ7_fill_53178_12 : decode cJ7_fill_53178 12 = .ok (.iload_n 1, 1) := by decide +kernel
theorem dJ7_fill_53178_13 : decode cJ7_fill_53178 13 = .ok (.iastore, 1) := by decide +kernel
theorem dJ7_fill_53178_14 : decode cJ7_fill_53178 14 = .ok (.iinc 2 1, 3) := by decide +kernel
theorem dJ7_fill_53178_17 : decode cJ7_fill_53178 17 = .ok (.goto (-12), 3) := by decide +kernel
theorem dJ7_fill_53178_0 : decode cJ7_fill_53178 0 = .ok (.iconst 0, 1) := by decide +kernel
theorem dJ7_fill_53178_1 : decode cJ7_fill_53178 1 = .ok (.istore_n 2, 1) := by decide +kernel
theorem dJ7_fill_53178_2 : decode cJ7_fill_53178 2 = .ok (.aload_n 0, 1) := by decide +kernel
theorem dJ7_fill_53178_3 : decode cJ7_fill_53178 3 = .ok (.arraylength, 1) := by decide +kernel
theorem dJ7_fill_53178_4 : decode cJ7_fill_53178 4 = .ok (.istore_n 3, 1) := by decide +kernel
def D_J7_fill_53178_5 (N : Nat) : Nat → mh_H → Nat → Int32 → Int32 → Int32 → Option mh_H
  | 0, _, _, _, _, _ => none
  | F + 1, h, l0, l1, l2, l3 =>
    if l3 ≤ l2 then (some h)
    else ((uI h l0 l2 l1).bind fun h1 =>
    (D_J7_fill_53178_5 N F) h1 l0 l1 (l2 + Int32.ofInt (1)) l3)
set_option maxHeartbeats 4000000 in
set_option maxRecDepth 100000 in
theorem T_J7_fill_53178_5 {P : mh_E → Prop} {N d : Nat} (hd : 1 ≤ d) {z : mh_H} : ∀ (F : Nat) (h : mh_H) (l0 : Nat) (l1 : Int32) (l2 : Int32) (l3 : Int32), D_J7_fill_53178_5 N F h l0 l1 l2 l3 = some z → mh_go P d mJ7_fill_53178 5 [some (.ref l0), some (.int l1), some (.int l2), some (.int l3)] [] h none z := by
  intro F
  induction F with
  | zero => intro h l0 l1 l2 l3 hq; rw [D_J7_fill_53178_5] at hq; cases hq
  | succ F ih =>
    intro h l0 l1 l2 l3 hq
    rw [D_J7_fill_53178_5] at hq
    refine st_iload_n (pc := 5) dJ7_fill_53178_5 rfl ?_
    refine st_iload_n (pc := 6) dJ7_fill_53178_6 rfl ?_
    refine bd_icmp_ge (pc := 7) (tgt := 20) hq dJ7_fill_53178_7 (by decide) (fun _ hq => ?_) (fun _ hq => ?_)
    ·
      exact bd_vret (pc := 20) hq dJ7_fill_53178_20 rfl
    ·
      refine st_aload_n (pc := 10) dJ7_fill_53178_10 rfl ?_
      refine st_iload_n (pc := 11) dJ7_fill_53178_11 rfl ?_
      refine st_iload_n (pc := 12) dJ7_fill_53178_12 rfl ?_
      refine bd_iast (pc := 13) hq dJ7_fill_53178_13 (fun h1 hq => ?_)
      refine st_iinc (pc := 14) (lv' := [some (.ref l0), some (.int l1), some (.int (l2 + Int32.ofInt (1))), some (.int l3)]) dJ7_fill_53178_14 rfl rfl (by decide) rfl ?_
      refine st_goto (pc := 17) (tgt := 5) dJ7_fill_53178_17 (by decide) ?_
      exact ih _ _ _ _ _ hq
def D_J7_fill_53178 (N : Nat) (h : mh_H) (l0 : Nat) (l1 : Int32) : Option mh_H :=
  (aL h l0).bind fun v1 =>
  D_J7_fill_53178_5 N N h l0 l1 (0 : Int32) v1
set_option maxHeartbeats 4000000 in
set_option maxRecDepth 100000 in
theorem T_J7_fill_53178 {P : mh_E → Prop} {N d : Nat} (hd : 1 ≤ d) {z : mh_H} {h : mh_H} {l0 : Nat} {l1 : Int32} (hq : D_J7_fill_53178 N h l0 l1 = some z) : mh_go P d mJ7_fill_53178 0 [some (.ref l0), some (.int l1), none, none] [] h none z := by
  unfold D_J7_fill_53178 at hq
  refine st_iconst (pc := 0) (v := (0 : Int32)) dJ7_fill_53178_0 rfl ?_
  refine st_istore_n (pc := 1) (lv' := [some (.ref l0), some (.int l1), some (.int (0 : Int32)), none]) dJ7_fill_53178_1 rfl (by decide) rfl ?_
  refine st_aload_n (pc := 2) dJ7_fill_53178_2 rfl ?_
  refine bd_alen (pc := 3) hq dJ7_fill_53178_3 (fun v1 hq => ?_)
  refine st_istore_n (pc := 4) (lv' := [some (.ref l0), some (.int l1), some (.int (0 : Int32)), some (.int v1)]) dJ7_fill_53178_4 rfl (by decide) rfl ?_
  exact T_J7_fill_53178_5 hd N _ _ _ _ _ hq
-- HoleWater.quick(II)I
theorem dX11_quick_22 : decode cX11_quick 22 = .ok (.aload_n 0, 1) := by decide +kernel
theorem dX11_quick_23 : decode cX11_quick 23 = .ok (.iconst 1, 1) := by decide +kernel
theorem dX11_quick_24 : decode cX11_quick 24 = .ok (.invokevirtual 66, 3) := by decide +kernel
theorem dX11_quick_27 : decode cX11_quick 27 = .ok (.ireturn, 1) := by decide +kernel
theorem dX11_quick_59 : decode cX11_quick 59 = .ok (.iload 4, 2) := by decide +kernel
theorem dX11_quick_61 : decode cX11_quick 61 = .ok (.aload_n 0, 1) := by decide +kernel
theorem dX11_quick_62 : decode cX11_quick 62 = .ok (.getfield 12, 3) := by decide +kernel
theorem dX11_quick_65 : decode cX11_quick 65 = .ok (.getfield 116, 3) := by decide +kernel
theorem dX11_quick_68 : decode cX11_quick 68 = .ok (.if_icmp .ge 23, 3) := by decide +kernel
theorem dX11_quick_91 : decode cX11_quick 91 = .ok (.iinc 3 1, 3) := by decide +kernel
theorem dX11_quick_94 : decode cX11_quick 94 = .ok (.goto (-49), 3) := by decide +kernel
theorem dX11_quick_71 : decode cX11_quick 71 = .ok (.aload_n 0, 1) := by decide +kernel
theorem dX11_quick_72 : decode cX11_quick 72 = .ok (.aload_n 0, 1) := by decide +kernel
theorem dX11_quick_73 : decode cX11_quick 73 = .ok (.getfield 12, 3) := by decide +kernel
theorem dX11_quick_76 : decode cX11_quick 76 = .ok (.getfield 130, 3) := by decide +kernel
theorem dX11_quick_79 : decode cX11_quick 79 = .ok (.iload 4, 2) := by decide +kernel
theorem dX11_quick_81 : decode cX11_quick 81 = .ok (.aaload, 1) := by decide +kernel
theorem dX11_quick_82 : decode cX11_quick 82 = .ok (.invokevirtual 175, 3) := by decide +kernel
theorem dX11_quick_85 : decode cX11_quick 85 = .ok (.iinc 4 1, 3) := by decide +kernel
theorem dX11_quick_88 : decode cX11_quick 88 = .ok (.goto (-29), 3) := by decide +kernel
theorem dX11_quick_45 : decode cX11_quick 45 = .ok (.iload_n 3, 1) := by decide +kernel
theorem dX11_quick_46 : decode cX11_quick 46 = .ok (.aload_n 0, 1) := by decide +kernel
theorem dX11_quick_47 : decode cX11_quick 47 = .ok (.getfield 12, 3) := by decide +kernel
theorem dX11_quick_50 : decode cX11_quick 50 = .ok (.getfield 70, 3) := by decide +kernel
theorem dX11_quick_53 : decode cX11_quick 53 = .ok (.if_icmp .ge 44, 3) := by decide +kernel
theorem dX11_quick_97 : decode cX11_quick 97 = .ok (.aload_n 0, 1) := by decide +kernel
theorem dX11_quick_98 : decode cX11_quick 98 = .ok (.getfield 55, 3) := by decide +kernel
theorem dX11_quick_101 : decode cX11_quick 101 = .ok (.iload_n 2, 1) := by decide +kernel
theorem dX11_quick_102 : decode cX11_quick 102 = .ok (.iaload, 1) := by decide +kernel
theorem dX11_quick_103 : decode cX11_quick 103 = .ok (.ifCond .ge 11, 3) := by decide +kernel
theorem dX11_quick_114 : decode cX11_quick 114 = .ok (.aload_n 0, 1) := by decide +kernel
theorem dX11_quick_115 : decode cX11_quick 115 = .ok (.getfield 55, 3) := by decide +kernel
theorem dX11_quick_118 : decode cX11_quick 118 = .ok (.iload_n 2, 1) := by decide +kernel
theorem dX11_quick_119 : decode cX11_quick 119 = .ok (.iaload, 1) := by decide +kernel
theorem dX11_quick_120 : decode cX11_quick 120 = .ok (.ireturn, 1) := by decide +kernel
theorem dX11_quick_106 : decode cX11_quick 106 = .ok (.aload_n 0, 1) := by decide +kernel
theorem dX11_quick_107 : decode cX11_quick 107 = .ok (.iconst 2, 1) := by decide +kernel
theorem dX11_quick_108 : decode cX11_quick 108 = .ok (.invokevirtual 66, 3) := by decide +kernel
theorem dX11_quick_111 : decode cX11_quick 111 = .ok (.goto 9, 3) := by decide +kernel
theorem dX11_quick_56 : decode cX11_quick 56 = .ok (.iconst 0, 1) := by decide +kernel
theorem dX11_quick_57 : decode cX11_quick 57 = .ok (.istore 4, 2) := by decide +kernel
theorem dX11_quick_0 : decode cX11_quick 0 = .ok (.aload_n 0, 1) := by decide +kernel
theorem dX11_quick_1 : decode cX11_quick 1 = .ok (.getfield 12, 3) := by decide +kernel
theorem dX11_quick_4 : decode cX11_quick 4 = .ok (.iload_n 1, 1) := by decide +kernel
theorem dX11_quick_5 : decode cX11_quick 5 = .ok (.invokevirtual 77, 3) := by decide +kernel
theorem dX11_quick_8 : decode cX11_quick 8 = .ok (.ifCond .eq 14, 3) := by decide +kernel
theorem dX11_quick_11 : decode cX11_quick 11 = .ok (.aload_n 0, 1) := by decide +kernel
theorem dX11_quick_12 : decode cX11_quick 12 = .ok (.getfield 12, 3) := by decide +kernel
theorem dX11_quick_15 : decode cX11_quick 15 = .ok (.iload_n 2, 1) := by decide +kernel
theorem dX11_quick_16 : decode cX11_quick 16 = .ok (.invokevirtual 77, 3) := by decide +kernel
theorem dX11_quick_19 : decode cX11_quick 19 = .ok (.ifCond .ne 9, 3) := by decide +kernel
theorem dX11_quick_28 : decode cX11_quick 28 = .ok (.aload_n 0, 1) := by decide +kernel
theorem dX11_quick_29 : decode cX11_quick 29 = .ok (.getfield 55, 3) := by decide +kernel
theorem dX11_quick_32 : decode cX11_quick 32 = .ok (.iconst (-1), 1) := by decide +kernel
theorem dX11_quick_33 : decode cX11_quick 33 = .ok (.invokestatic 169, 3) := by decide +kernel
theorem dX11_quick_36 : decode cX11_quick 36 = .ok (.aload_n 0, 1) := by decide +kernel
theorem dX11_quick_37 : decode cX11_quick 37 = .ok (.getfield 55, 3) := by decide +kernel
theorem dX11_quick_40 : decode cX11_quick 40 = .ok (.iload_n 1, 1) := by decide +kernel
theorem dX11_quick_41 : decode cX11_quick 41 = .ok (.iconst 0, 1) := by decide +kernel
theorem dX11_quick_42 : decode cX11_quick 42 = .ok (.iastore, 1) := by decide +kernel
theorem dX11_quick_43 : decode cX11_quick 43 = .ok (.iconst 0, 1) := by decide +kernel
theorem dX11_quick_44 : decode cX11_quick 44 = .ok (.istore_n 3, 1) := by decide +kernel
def D_X11_quick_22 (N : Nat) (h : mh_H) (l0 : Nat) : Option (Int32 × mh_H) :=
  kO h 11 l0 <|
  (D_X11_error N h l0 (1 : Int32)).bind fun q1 =>
  some (q1.1, q1.2)
set_option maxHeartbeats 4000000 in
set_option maxRecDepth 100000 in
theorem T_X11_quick_22 {P : mh_E → Prop} {N d : Nat} (hd : 4 ≤ d) {z : (Int32 × mh_H)} {h : mh_H} {l0 : Nat} (hq : D_X11_quick_22 N h l0 = some z) : mh_go P d mX11_quick 22 [some (.ref l0), none, none, none, none] [] h (some (.int z.1)) z.2 := by
  unfold D_X11_quick_22 at hq
  refine st_aload_n (pc := 22) dX11_quick_22 rfl ?_
  refine st_iconst (pc := 23) (v := (1 : Int32)) dX11_quick_23 rfl ?_
  obtain ⟨⟨hbq1, hkq1⟩, hq⟩ := mh_oi hq
  obtain ⟨q1, e1, hq⟩ := mh_ob hq
  refine st_invV (pc := 24) (ci := 11) (vs := [.int (1 : Int32)]) (rest := []) (st2 := [.int q1.1]) dX11_quick_24 okX11_error (by decide) hkq1 hbq1 wd_326 wd_328 wp_0 pdX11_error rfl rfl rfl rfl (Nat.le_trans (by decide) hd) (Nat.le_of_ble_eq_true rfl) (T_X11_error (Nat.le_refl _) e1) rfl ?_
  exact bd_iret (pc := 27) hq dX11_quick_27 rfl
def D_X11_quick_59 (N : Nat) (k45 : mh_H → Nat → Int32 → Int32 → Option (Int32 × mh_H)) : Nat → mh_H → Nat → Int32 → Int32 → Int32 → Option (Int32 × mh_H)
  | 0, _, _, _, _, _ => none
  | F + 1, h, l0, l2, l3, l4 =>
    (gR h 11 l0 0).bind fun v1 =>
    (gI h 10 v1 1).bind fun v2 =>
    if v2 ≤ l4 then (k45 h l0 l2 (l3 + Int32.ofInt (1)))
    else ((gR h 11 l0 0).bind fun v3 =>
    (gR h 10 v3 6).bind fun v4 =>
    (aR h v4 l4).bind fun v5 =>
    kO h 11 l0 <|
    (D_X11_goAlong N h l0 v5).bind fun q6 =>
    (D_X11_quick_59 N k45 F) q6 l0 l2 l3 (l4 + Int32.ofInt (1)))
set_option maxHeartbeats 4000000 in
set_option maxRecDepth 100000 in
theorem T_X11_quick_59 {P : mh_E → Prop} {N d : Nat} (hd : 4 ≤ d) {z : (Int32 × mh_H)} {k45 : mh_H → Nat → Int32 → Int32 → Option (Int32 × mh_H)} (hk45 : ∀ (h : mh_H) (l0 : Nat) (l2 : Int32) (l3 : Int32), k45 h l0 l2 l3 = some z → mh_go P d mX11_quick 45 [some (.ref l0), none, some (.int l2), some (.int l3), none] [] h (some (.int z.1)) z.2) : ∀ (F : Nat) (h : mh_H) (l0 : Nat) (l2 : Int32) (l3 : Int32) (l4 : Int32), D_X11_quick_59 N k45 F h l0 l2 l3 l4 = some z → mh_go P d mX11_quick 59 [some (.ref l0), none, some (.int l2), some (.int l3), some (.int l4)] [] h (some (.int z.1)) z.2 := by
  intro F
  induction F with
  | zero => intro h l0 l2 l3 l4 hq; rw [D_X11_quick_59] at hq; cases hq
  | succ F ih =>
    intro h l0 l2 l3 l4 hq
    rw [D_X11_quick_59] at hq
    refine st_iload (pc := 59) dX11_quick_59 rfl ?_
    refine st_aload_n (pc := 61) dX11_quick_61 rfl ?_
    refine bd_getr (pc := 62) hq dX11_quick_62 fl_11_12_11 rfl (fun v1 hq => ?_)
    refine bd_geti (pc := 65) hq dX11_quick_65 fl_11_116_10 rfl (fun v2 hq => ?_)
    refine bd_icmp_ge (pc := 68) (tgt := 91) hq dX11_quick_68 (by decide) (fun _ hq => ?_) (fun _ hq => ?_)
    ·
      refine st_iinc (pc := 91) (lv' := [some (.ref l0), none, some (.int l2), some (.int (l3 + Int32.ofInt (1))), some (.int l4)]) dX11_quick_91 rfl rfl (by decide) rfl ?_
      refine st_goto (pc := 94) (tgt := 45) dX11_quick_94 (by decide) ?_
      refine st_lesS (lv' := [some (.ref l0), none, some (.int l2), some (.int (l3 + Int32.ofInt (1))), none]) ⟨Or.inr rfl, Or.inr rfl, Or.inr rfl, Or.inr rfl, Or.inl rfl, trivial⟩ ?_
      exact hk45 _ _ _ _ hq
    ·
      refine st_aload_n (pc := 71) dX11_quick_71 rfl ?_
      refine st_aload_n (pc := 72) dX11_quick_72 rfl ?_
      refine bd_getr (pc := 73) hq dX11_quick_73 fl_11_12_11 rfl (fun v3 hq => ?_)
      refine bd_getr (pc := 76) hq dX11_quick_76 fl_11_130_10 rfl (fun v4 hq => ?_)
      refine st_iload (pc := 79) dX11_quick_79 rfl ?_
      refine bd_aald (pc := 81) hq dX11_quick_81 (fun v5 hq => ?_)
      obtain ⟨⟨hbq6, hkq6⟩, hq⟩ := mh_oi hq
      obtain ⟨q6, e6, hq⟩ := mh_ob hq
      refine st_invV (pc := 82) (ci := 11) (vs := [.ref v5]) (rest := []) (st2 := []) dX11_quick_82 okX11_goAlong (by decide) hkq6 hbq6 wd_494 wd_496 wp_1 pdX11_goAlong rfl rfl rfl rfl (Nat.le_trans (by decide) hd) (Nat.le_of_ble_eq_true rfl) (T_X11_goAlong (Nat.le_refl _) e6) rfl ?_
      refine st_iinc (pc := 85) (lv' := [some (.ref l0), none, some (.int l2), some (.int l3), some (.int (l4 + Int32.ofInt (1)))]) dX11_quick_85 rfl rfl (by decide) rfl ?_
      refine st_goto (pc := 88) (tgt := 59) dX11_quick_88 (by decide) ?_
      exact ih _ _ _ _ _ hq
def D_X11_quick_45 (N : Nat) : Nat → mh_H → Nat → Int32 → Int32 → Option (Int32 × mh_H)
  | 0, _, _, _, _ => none
  | F + 1, h, l0, l2, l3 =>
    (gR h 11 l0 0).bind fun v1 =>
    (gI h 10 v1 0).bind fun v2 =>
    if v2 ≤ l3 then ((gR h 11 l0 9).bind fun v3 =>
    (aI h v3 l2).bind fun v4 =>
    if 0 ≤ v4 then ((gR h 11 l0 9).bind fun v5 =>
    (aI h v5 l2).bind fun v6 =>
    some (v6, h))
    else (kO h 11 l0 <|
    (D_X11_error N h l0 (2 : Int32)).bind fun q5 =>
    some (q5.1, q5.2)))
    else (D_X11_quick_59 N (D_X11_quick_45 N F) N h l0 l2 l3 (0 : Int32))
set_option maxHeartbeats 4000000 in
set_option maxRecDepth 100000 in
theorem T_X11_quick_45 {P : mh_E → Prop} {N d : Nat} (hd : 4 ≤ d) {z : (Int32 × mh_H)} : ∀ (F : Nat) (h : mh_H) (l0 : Nat) (l2 : Int32) (l3 : Int32), D_X11_quick_45 N F h l0 l2 l3 = some z → mh_go P d mX11_quick 45 [some (.ref l0), none, some (.int l2), some (.int l3), none] [] h (some (.int z.1)) z.2 := by
  intro F
  induction F with
  | zero => intro h l0 l2 l3 hq; rw [D_X11_quick_45] at hq; cases hq
  | succ F ih =>
    intro h l0 l2 l3 hq
    rw [D_X11_quick_45] at hq
    refine st_iload_n (pc := 45) dX11_quick_45 rfl ?_
    refine st_aload_n (pc := 46) dX11_quick_46 rfl ?_
    refine bd_getr (pc := 47) hq dX11_quick_47 fl_11_12_11 rfl (fun v1 hq => ?_)
    refine bd_geti (pc := 50) hq dX11_quick_50 fl_11_70_10 rfl (fun v2 hq => ?_)
    refine bd_icmp_ge (pc := 53) (tgt := 97) hq dX11_quick_53 (by decide) (fun _ hq => ?_) (fun _ hq => ?_)
    ·
      refine st_aload_n (pc := 97) dX11_quick_97 rfl ?_
      refine bd_getr (pc := 98) hq dX11_quick_98 fl_11_55_11 rfl (fun v3 hq => ?_)
      refine st_iload_n (pc := 101) dX11_quick_101 rfl ?_
      refine bd_iald (pc := 102) hq dX11_quick_102 (fun v4 hq => ?_)
      refine bd_if_ge (pc := 103) (tgt := 114) hq dX11_quick_103 (by decide) (fun _ hq => ?_) (fun _ hq => ?_)
      ·
        refine st_aload_n (pc := 114) dX11_quick_114 rfl ?_
        refine bd_getr (pc := 115) hq dX11_quick_115 fl_11_55_11 rfl (fun v5 hq => ?_)
        refine st_iload_n (pc := 118) dX11_quick_118 rfl ?_
        refine bd_iald (pc := 119) hq dX11_quick_119 (fun v6 hq => ?_)
        exact bd_iret (pc := 120) hq dX11_quick_120 rfl
      ·
        refine st_aload_n (pc := 106) dX11_quick_106 rfl ?_
        refine st_iconst (pc := 107) (v := (2 : Int32)) dX11_quick_107 rfl ?_
        obtain ⟨⟨hbq5, hkq5⟩, hq⟩ := mh_oi hq
        obtain ⟨q5, e5, hq⟩ := mh_ob hq
        refine st_invV (pc := 108) (ci := 11) (vs := [.int (2 : Int32)]) (rest := []) (st2 := [.int q5.1]) dX11_quick_108 okX11_error (by decide) hkq5 hbq5 wd_326 wd_328 wp_0 pdX11_error rfl rfl rfl rfl (Nat.le_trans (by decide) hd) (Nat.le_of_ble_eq_true rfl) (T_X11_error (Nat.le_refl _) e5) rfl ?_
        refine st_goto (pc := 111) (tgt := 120) dX11_quick_111 (by decide) ?_
        exact bd_iret (pc := 120) hq dX11_quick_120 rfl
    ·
      refine st_iconst (pc := 56) (v := (0 : Int32)) dX11_quick_56 rfl ?_
      refine st_istore (pc := 57) (lv' := [some (.ref l0), none, some (.int l2), some (.int l3), some (.int (0 : Int32))]) dX11_quick_57 rfl (by decide) rfl ?_
      exact T_X11_quick_59 hd ih N _ _ _ _ _ hq
def D_X11_quick (N : Nat) (h : mh_H) (l0 : Nat) (l1 : Int32) (l2 : Int32) : Option (Int32 × mh_H) :=
  (gR h 11 l0 0).bind fun v1 =>
  kO h 10 v1 <|
  (D_X10_isJoint N h v1 l1).bind fun q2 =>
  if q2.1 = 0 then (D_X11_quick_22 N q2.2 l0)
  else ((gR q2.2 11 l0 0).bind fun v3 =>
  kO q2.2 10 v3 <|
  (D_X10_isJoint N q2.2 v3 l2).bind fun q4 =>
  if q4.1 = 0 then (D_X11_quick_22 N q4.2 l0)
  else ((gR q4.2 11 l0 9).bind fun v5 =>
  (D_J7_fill_53178 N q4.2 v5 (-1 : Int32)).bind fun q6 =>
  (gR q6 11 l0 9).bind fun v7 =>
  (uI q6 v7 l1 (0 : Int32)).bind fun h8 =>
  D_X11_quick_45 N N h8 l0 l2 (0 : Int32)))
set_option maxHeartbeats 4000000 in
set_option maxRecDepth 100000 in
theorem T_X11_quick {P : mh_E → Prop} {N d : Nat} (hd : 4 ≤ d) {z : (Int32 × mh_H)} {h : mh_H} {l0 : Nat} {l1 : Int32} {l2 : Int32} (hq : D_X11_quick N h l0 l1 l2 = some z) : mh_go P d mX11_quick 0 [some (.ref l0), some (.int l1), some (.int l2), none, none] [] h (some (.int z.1)) z.2 := by
  unfold D_X11_quick at hq
  refine st_aload_n (pc := 0) dX11_quick_0 rfl ?_
  refine bd_getr (pc := 1) hq dX11_quick_1 fl_11_12_11 rfl (fun v1 hq => ?_)
  refine st_iload_n (pc := 4) dX11_quick_4 rfl ?_
  obtain ⟨⟨hbq2, hkq2⟩, hq⟩ := mh_oi hq
  obtain ⟨q2, e2, hq⟩ := mh_ob hq
  refine st_invV (pc := 5) (ci := 10) (vs := [.int l1]) (rest := []) (st2 := [.int q2.1]) dX11_quick_5 okX10_isJoint (by decide) hkq2 hbq2 wd_339 wd_340 wd_341 pdX10_isJoint rfl rfl rfl rfl (Nat.le_trans (by decide) hd) (Nat.le_of_ble_eq_true rfl) (T_X10_isJoint (Nat.le_refl _) e2) rfl ?_
  refine bd_if_eq (pc := 8) (tgt := 22) hq dX11_quick_8 (by decide) (fun _ hq => ?_) (fun _ hq => ?_)
  ·
    refine st_lesS (lv' := [some (.ref l0), none, none, none, none]) ⟨Or.inr rfl, Or.inl rfl, Or.inl rfl, Or.inr rfl, Or.inr rfl, trivial⟩ ?_
    exact T_X11_quick_22 hd hq
  ·
    refine st_aload_n (pc := 11) dX11_quick_11 rfl ?_
    refine bd_getr (pc := 12) hq dX11_quick_12 fl_11_12_11 rfl (fun v3 hq => ?_)
    refine st_iload_n (pc := 15) dX11_quick_15 rfl ?_
    obtain ⟨⟨hbq4, hkq4⟩, hq⟩ := mh_oi hq
    obtain ⟨q4, e4, hq⟩ := mh_ob hq
    refine st_invV (pc := 16) (ci := 10) (vs := [.int l2]) (rest := []) (st2 := [.int q4.1]) dX11_quick_16 okX10_isJoint (by decide) hkq4 hbq4 wd_339 wd_340 wd_341 pdX10_isJoint rfl rfl rfl rfl (Nat.le_trans (by decide) hd) (Nat.le_of_ble_eq_true rfl) (T_X10_isJoint (Nat.le_refl _) e4) rfl ?_
    refine bd_if_ne (pc := 19) (tgt := 28) hq dX11_quick_19 (by decide) (fun _ hq => ?_) (fun _ hq => ?_)
    ·
      refine st_lesS (lv' := [some (.ref l0), none, none, none, none]) ⟨Or.inr rfl, Or.inl rfl, Or.inl rfl, Or.inr rfl, Or.inr rfl, trivial⟩ ?_
      exact T_X11_quick_22 hd hq
    ·
      refine st_aload_n (pc := 28) dX11_quick_28 rfl ?_
      refine bd_getr (pc := 29) hq dX11_quick_29 fl_11_55_11 rfl (fun v5 hq => ?_)
      refine st_iconst (pc := 32) (v := (-1 : Int32)) dX11_quick_32 rfl ?_
      obtain ⟨q6, e6, hq⟩ := mh_ob hq
      refine st_invS (pc := 33) (Y := mJ7_fill_53178) (vs := [.ref v5, .int (-1 : Int32)]) (rest := []) (st2 := []) dX11_quick_33 okJ7_fill_53178 wd_491 wd_492 pdJ7_fill_53178 rfl rfl rfl rfl (Nat.le_trans (by decide) hd) (Nat.le_of_ble_eq_true rfl) (T_J7_fill_53178 (Nat.le_refl _) e6) rfl ?_
      refine st_aload_n (pc := 36) dX11_quick_36 rfl ?_
      refine bd_getr (pc := 37) hq dX11_quick_37 fl_11_55_11 rfl (fun v7 hq => ?_)
      refine st_iload_n (pc := 40) dX11_quick_40 rfl ?_
      refine st_iconst (pc := 41) (v := (0 : Int32)) dX11_quick_41 rfl ?_
      refine bd_iast (pc := 42) hq dX11_quick_42 (fun h8 hq => ?_)
      refine st_iconst (pc := 43) (v := (0 : Int32)) dX11_quick_43 rfl ?_
      refine st_istore_n (pc := 44) (lv' := [some (.ref l0), some (.int l1), some (.int l2), some (.int (0 : Int32)), none]) dX11_quick_44 rfl (by decide) rfl ?_
      refine st_lesS (lv' := [some (.ref l0), none, some (.int l2), some (.int (0 : Int32)), none]) ⟨Or.inr rfl, Or.inl rfl, Or.inr rfl, Or.inr rfl, Or.inr rfl, trivial⟩ ?_
      exact T_X11_quick_45 hd N _ _ _ _ hq
-- HoleWater.flood(Z)I
theorem dX11_flood_18 : decode cX11_flood 18 = .ok (.istore_n 2, 1) := by decide +kernel
theorem dX11_flood_19 : decode cX11_flood 19 = .ok (.aload_n 0, 1) := by decide +kernel
theorem dX11_flood_20 : decode cX11_flood 20 = .ok (.getfield 12, 3) := by decide +kernel
theorem dX11_flood_23 : decode cX11_flood 23 = .ok (.getfield 90, 3) := by decide +kernel
theorem dX11_flood_26 : decode cX11_flood 26 = .ok (.iload_n 1, 1) := by decide +kernel
theorem dX11_flood_27 : decode cX11_flood 27 = .ok (.putfield 179, 3) := by decide +kernel
theorem dX11_flood_30 : decode cX11_flood 30 = .ok (.iload_n 2, 1) := by decide +kernel
theorem dX11_flood_31 : decode cX11_flood 31 = .ok (.ireturn, 1) := by decide +kernel
theorem dX11_flood_0 : decode cX11_flood 0 = .ok (.aload_n 0, 1) := by decide +kernel
theorem dX11_flood_1 : decode cX11_flood 1 = .ok (.getfield 12, 3) := by decide +kernel
theorem dX11_flood_4 : decode cX11_flood 4 = .ok (.getfield 90, 3) := by decide +kernel
theorem dX11_flood_7 : decode cX11_flood 7 = .ok (.getfield 179, 3) := by decide +kernel
theorem dX11_flood_10 : decode cX11_flood 10 = .ok (.ifCond .eq 7, 3) := by decide +kernel
theorem dX11_flood_17 : decode cX11_flood 17 = .ok (.iconst 0, 1) := by decide +kernel
theorem dX11_flood_13 : decode cX11_flood 13 = .ok (.iconst 1, 1) := by decide +kernel
theorem dX11_flood_14 : decode cX11_flood 14 = .ok (.goto 4, 3) := by decide +kernel
def D_X11_flood_18 (N : Nat) (h : mh_H) (l0 : Nat) (l1 : Int32) (s0 : Int32) : Option (Int32 × mh_H) :=
  (gR h 11 l0 0).bind fun v1 =>
  (gR h 10 v1 7).bind fun v2 =>
  (pB h 8 v2 1 l1).bind fun h3 =>
  some (s0, h3)
set_option maxHeartbeats 4000000 in
set_option maxRecDepth 100000 in
theorem T_X11_flood_18 {P : mh_E → Prop} {N d : Nat} (hd : 1 ≤ d) {z : (Int32 × mh_H)} {h : mh_H} {l0 : Nat} {l1 : Int32} {s0 : Int32} (hq : D_X11_flood_18 N h l0 l1 s0 = some z) : mh_go P d mX11_flood 18 [some (.ref l0), some (.int l1), none] [.int s0] h (some (.int z.1)) z.2 := by
  unfold D_X11_flood_18 at hq
  refine st_istore_n (pc := 18) (lv' := [some (.ref l0), some (.int l1), some (.int s0)]) dX11_flood_18 rfl (by decide) rfl ?_
  refine st_aload_n (pc := 19) dX11_flood_19 rfl ?_
  refine bd_getr (pc := 20) hq dX11_flood_20 fl_11_12_11 rfl (fun v1 hq => ?_)
  refine bd_getr (pc := 23) hq dX11_flood_23 fl_11_90_10 rfl (fun v2 hq => ?_)
  refine st_iload_n (pc := 26) dX11_flood_26 rfl ?_
  refine bd_putb (pc := 27) hq dX11_flood_27 fl_11_179_8 (Or.inl rfl) rfl (fun h3 hq => ?_)
  refine st_iload_n (pc := 30) dX11_flood_30 rfl ?_
  exact bd_iret (pc := 31) hq dX11_flood_31 rfl
def D_X11_flood (N : Nat) (h : mh_H) (l0 : Nat) (l1 : Int32) : Option (Int32 × mh_H) :=
  (gR h 11 l0 0).bind fun v1 =>
  (gR h 10 v1 7).bind fun v2 =>
  (gI h 8 v2 1).bind fun v3 =>
  if v3 = 0 then (D_X11_flood_18 N h l0 l1 (0 : Int32))
  else (D_X11_flood_18 N h l0 l1 (1 : Int32))
set_option maxHeartbeats 4000000 in
set_option maxRecDepth 100000 in
theorem T_X11_flood {P : mh_E → Prop} {N d : Nat} (hd : 1 ≤ d) {z : (Int32 × mh_H)} {h : mh_H} {l0 : Nat} {l1 : Int32} (hq : D_X11_flood N h l0 l1 = some z) : mh_go P d mX11_flood 0 [some (.ref l0), some (.int l1), none] [] h (some (.int z.1)) z.2 := by
  unfold D_X11_flood at hq
  refine st_aload_n (pc := 0) dX11_flood_0 rfl ?_
  refine bd_getr (pc := 1) hq dX11_flood_1 fl_11_12_11 rfl (fun v1 hq => ?_)
  refine bd_getr (pc := 4) hq dX11_flood_4 fl_11_90_10 rfl (fun v2 hq => ?_)
  refine bd_geti (pc := 7) hq dX11_flood_7 fl_11_179_8 rfl (fun v3 hq => ?_)
  refine bd_if_eq (pc := 10) (tgt := 17) hq dX11_flood_10 (by decide) (fun _ hq => ?_) (fun _ hq => ?_)
  ·
    refine st_iconst (pc := 17) (v := (0 : Int32)) dX11_flood_17 rfl ?_
    exact T_X11_flood_18 hd hq
  ·
    refine st_iconst (pc := 13) (v := (1 : Int32)) dX11_flood_13 rfl ?_
    refine st_goto (pc := 14) (tgt := 18) dX11_flood_14 (by decide) ?_
    exact T_X11_flood_18 hd hq
-- HoleWater.isColour(I)Z
theorem dX11_isColour_0 : decode cX11_isColour 0 = .ok (.iload_n 0, 1) := by decide +kernel
theorem dX11_isColour_1 : decode cX11_isColour 1 = .ok (.iconst 0, 1) := by decide +kernel
theorem dX11_isColour_2 : decode cX11_isColour 2 = .ok (.iconst 3, 1) := by decide +kernel
theorem dX11_isColour_3 : decode cX11_isColour 3 = .ok (.invokestatic 62, 3) := by decide +kernel
theorem dX11_isColour_6 : decode cX11_isColour 6 = .ok (.ireturn, 1) := by decide +kernel
def D_X11_isColour (N : Nat) (h : mh_H) (l0 : Int32) : Option (Int32 × mh_H) :=
  (D_X11_within N h l0 (0 : Int32) (3 : Int32)).bind fun q1 =>
  zB q1.1 q1.2
set_option maxHeartbeats 4000000 in
set_option maxRecDepth 100000 in
theorem T_X11_isColour {P : mh_E → Prop} {N d : Nat} (hd : 2 ≤ d) {z : (Int32 × mh_H)} {h : mh_H} {l0 : Int32} (hq : D_X11_isColour N h l0 = some z) : mh_go P d mX11_isColour 0 [some (.int l0)] [] h (some (.int z.1)) z.2 := by
  unfold D_X11_isColour at hq
  refine st_iload_n (pc := 0) dX11_isColour_0 rfl ?_
  refine st_iconst (pc := 1) (v := (0 : Int32)) dX11_isColour_1 rfl ?_
  refine st_iconst (pc := 2) (v := (3 : Int32)) dX11_isColour_2 rfl ?_
  obtain ⟨q1, e1, hq⟩ := mh_ob hq
  refine st_invS (pc := 3) (Y := mX11_within) (vs := [.int l0, .int (0 : Int32), .int (3 : Int32)]) (rest := []) (st2 := [.int q1.1]) dX11_isColour_3 okX11_within wd_323 wd_324 pdX11_within rfl rfl rfl rfl (Nat.le_trans (by decide) hd) (Nat.le_of_ble_eq_true rfl) (T_X11_within (Nat.le_refl _) e1) rfl ?_
  exact bd_zret (pc := 6) hq dX11_isColour_6 rfl
-- HoleWater.fade(II)I
theorem dX11_fade_17 : decode cX11_fade 17 = .ok (.aload_n 0, 1) := by decide +kernel
theorem dX11_fade_18 : decode cX11_fade 18 = .ok (.iconst 1, 1) := by decide +kernel
theorem dX11_fade_19 : decode cX11_fade 19 = .ok (.invokevirtual 66, 3) := by decide +kernel
theorem dX11_fade_22 : decode cX11_fade 22 = .ok (.ireturn, 1) := by decide +kernel
theorem dX11_fade_0 : decode cX11_fade 0 = .ok (.iload_n 1, 1) := by decide +kernel
theorem dX11_fade_1 : decode cX11_fade 1 = .ok (.invokestatic 183, 3) := by decide +kernel
theorem dX11_fade_4 : decode cX11_fade 4 = .ok (.ifCond .eq 13, 3) := by decide +kernel
theorem dX11_fade_7 : decode cX11_fade 7 = .ok (.iload_n 2, 1) := by decide +kernel
theorem dX11_fade_8 : decode cX11_fade 8 = .ok (.iconst 0, 1) := by decide +kernel
theorem dX11_fade_9 : decode cX11_fade 9 = .ok (.bipush 99, 2) := by decide +kernel
theorem dX11_fade_11 : decode cX11_fade 11 = .ok (.invokestatic 62, 3) := by decide +kernel
theorem dX11_fade_14 : decode cX11_fade 14 = .ok (.ifCond .ne 9, 3) := by decide +kernel
theorem dX11_fade_23 : decode cX11_fade 23 = .ok (.aload_n 0, 1) := by decide +kernel
theorem dX11_fade_24 : decode cX11_fade 24 = .ok (.getfield 12, 3) := by decide +kernel
theorem dX11_fade_27 : decode cX11_fade 27 = .ok (.getfield 90, 3) := by decide +kernel
theorem dX11_fade_30 : decode cX11_fade 30 = .ok (.getfield 186, 3) := by decide +kernel
theorem dX11_fade_33 : decode cX11_fade 33 = .ok (.iload_n 1, 1) := by decide +kernel
theorem dX11_fade_34 : decode cX11_fade 34 = .ok (.iaload, 1) := by decide +kernel
theorem dX11_fade_35 : decode cX11_fade 35 = .ok (.istore_n 3, 1) := by decide +kernel
theorem dX11_fade_36 : decode cX11_fade 36 = .ok (.aload_n 0, 1) := by decide +kernel
theorem dX11_fade_37 : decode cX11_fade 37 = .ok (.getfield 12, 3) := by decide +kernel
theorem dX11_fade_40 : decode cX11_fade 40 = .ok (.getfield 90, 3) := by decide +kernel
theorem dX11_fade_43 : decode cX11_fade 43 = .ok (.getfield 186, 3) := by decide +kernel
theorem dX11_fade_46 : decode cX11_fade 46 = .ok (.iload_n 1, 1) := by decide +kernel
theorem dX11_fade_47 : decode cX11_fade 47 = .ok (.iload_n 2, 1) := by decide +kernel
theorem dX11_fade_48 : decode cX11_fade 48 = .ok (.iastore, 1) := by decide +kernel
theorem dX11_fade_49 : decode cX11_fade 49 = .ok (.iload_n 3, 1) := by decide +kernel
theorem dX11_fade_50 : decode cX11_fade 50 = .ok (.ireturn, 1) := by decide +kernel
def D_X11_fade_17 (N : Nat) (h : mh_H) (l0 : Nat) : Option (Int32 × mh_H) :=
  kO h 11 l0 <|
  (D_X11_error N h l0 (1 : Int32)).bind fun q1 =>
  some (q1.1, q1.2)
set_option maxHeartbeats 4000000 in
set_option maxRecDepth 100000 in
theorem T_X11_fade_17 {P : mh_E → Prop} {N d : Nat} (hd : 3 ≤ d) {z : (Int32 × mh_H)} {h : mh_H} {l0 : Nat} (hq : D_X11_fade_17 N h l0 = some z) : mh_go P d mX11_fade 17 [some (.ref l0), none, none, none] [] h (some (.int z.1)) z.2 := by
  unfold D_X11_fade_17 at hq
  refine st_aload_n (pc := 17) dX11_fade_17 rfl ?_
  refine st_iconst (pc := 18) (v := (1 : Int32)) dX11_fade_18 rfl ?_
  obtain ⟨⟨hbq1, hkq1⟩, hq⟩ := mh_oi hq
  obtain ⟨q1, e1, hq⟩ := mh_ob hq
  refine st_invV (pc := 19) (ci := 11) (vs := [.int (1 : Int32)]) (rest := []) (st2 := [.int q1.1]) dX11_fade_19 okX11_error (by decide) hkq1 hbq1 wd_326 wd_328 wp_0 pdX11_error rfl rfl rfl rfl (Nat.le_trans (by decide) hd) (Nat.le_of_ble_eq_true rfl) (T_X11_error (Nat.le_refl _) e1) rfl ?_
  exact bd_iret (pc := 22) hq dX11_fade_22 rfl
def D_X11_fade (N : Nat) (h : mh_H) (l0 : Nat) (l1 : Int32) (l2 : Int32) : Option (Int32 × mh_H) :=
  (D_X11_isColour N h l1).bind fun q1 =>
  if q1.1 = 0 then (D_X11_fade_17 N q1.2 l0)
  else ((D_X11_within N q1.2 l2 (0 : Int32) (99 : Int32)).bind fun q2 =>
  if q2.1 = 0 then (D_X11_fade_17 N q2.2 l0)
  else ((gR q2.2 11 l0 0).bind fun v3 =>
  (gR q2.2 10 v3 7).bind fun v4 =>
  (gR q2.2 8 v4 3).bind fun v5 =>
  (aI q2.2 v5 l1).bind fun v6 =>
  (gR q2.2 11 l0 0).bind fun v7 =>
  (gR q2.2 10 v7 7).bind fun v8 =>
  (gR q2.2 8 v8 3).bind fun v9 =>
  (uI q2.2 v9 l1 l2).bind fun h10 =>
  some (v6, h10)))
set_option maxHeartbeats 4000000 in
set_option maxRecDepth 100000 in
theorem T_X11_fade {P : mh_E → Prop} {N d : Nat} (hd : 3 ≤ d) {z : (Int32 × mh_H)} {h : mh_H} {l0 : Nat} {l1 : Int32} {l2 : Int32} (hq : D_X11_fade N h l0 l1 l2 = some z) : mh_go P d mX11_fade 0 [some (.ref l0), some (.int l1), some (.int l2), none] [] h (some (.int z.1)) z.2 := by
  unfold D_X11_fade at hq
  refine st_iload_n (pc := 0) dX11_fade_0 rfl ?_
  obtain ⟨q1, e1, hq⟩ := mh_ob hq
  refine st_invS (pc := 1) (Y := mX11_isColour) (vs := [.int l1]) (rest := []) (st2 := [.int q1.1]) dX11_fade_1 okX11_isColour wd_506 wd_507 pdX11_isColour rfl rfl rfl rfl (Nat.le_trans (by decide) hd) (Nat.le_of_ble_eq_true rfl) (T_X11_isColour (Nat.le_refl _) e1) rfl ?_
  refine bd_if_eq (pc := 4) (tgt := 17) hq dX11_fade_4 (by decide) (fun _ hq => ?_) (fun _ hq => ?_)
  ·
    refine st_lesS (lv' := [some (.ref l0), none, none, none]) ⟨Or.inr rfl, Or.inl rfl, Or.inl rfl, Or.inr rfl, trivial⟩ ?_
    exact T_X11_fade_17 hd hq
  ·
    refine st_iload_n (pc := 7) dX11_fade_7 rfl ?_
    refine st_iconst (pc := 8) (v := (0 : Int32)) dX11_fade_8 rfl ?_
    refine st_bipush (pc := 9) (v := (99 : Int32)) dX11_fade_9 (by decide) ?_
    obtain ⟨q2, e2, hq⟩ := mh_ob hq
    refine st_invS (pc := 11) (Y := mX11_within) (vs := [.int l2, .int (0 : Int32), .int (99 : Int32)]) (rest := []) (st2 := [.int q2.1]) dX11_fade_11 okX11_within wd_323 wd_324 pdX11_within rfl rfl rfl rfl (Nat.le_trans (by decide) hd) (Nat.le_of_ble_eq_true rfl) (T_X11_within (Nat.le_refl _) e2) rfl ?_
    refine bd_if_ne (pc := 14) (tgt := 23) hq dX11_fade_14 (by decide) (fun _ hq => ?_) (fun _ hq => ?_)
    ·
      refine st_lesS (lv' := [some (.ref l0), none, none, none]) ⟨Or.inr rfl, Or.inl rfl, Or.inl rfl, Or.inr rfl, trivial⟩ ?_
      exact T_X11_fade_17 hd hq
    ·
      refine st_aload_n (pc := 23) dX11_fade_23 rfl ?_
      refine bd_getr (pc := 24) hq dX11_fade_24 fl_11_12_11 rfl (fun v3 hq => ?_)
      refine bd_getr (pc := 27) hq dX11_fade_27 fl_11_90_10 rfl (fun v4 hq => ?_)
      refine bd_getr (pc := 30) hq dX11_fade_30 fl_11_186_8 rfl (fun v5 hq => ?_)
      refine st_iload_n (pc := 33) dX11_fade_33 rfl ?_
      refine bd_iald (pc := 34) hq dX11_fade_34 (fun v6 hq => ?_)
      refine st_istore_n (pc := 35) (lv' := [some (.ref l0), some (.int l1), some (.int l2), some (.int v6)]) dX11_fade_35 rfl (by decide) rfl ?_
      refine st_aload_n (pc := 36) dX11_fade_36 rfl ?_
      refine bd_getr (pc := 37) hq dX11_fade_37 fl_11_12_11 rfl (fun v7 hq => ?_)
      refine bd_getr (pc := 40) hq dX11_fade_40 fl_11_90_10 rfl (fun v8 hq => ?_)
      refine bd_getr (pc := 43) hq dX11_fade_43 fl_11_186_8 rfl (fun v9 hq => ?_)
      refine st_iload_n (pc := 46) dX11_fade_46 rfl ?_
      refine st_iload_n (pc := 47) dX11_fade_47 rfl ?_
      refine bd_iast (pc := 48) hq dX11_fade_48 (fun h10 hq => ?_)
      refine st_iload_n (pc := 49) dX11_fade_49 rfl ?_
      exact bd_iret (pc := 50) hq dX11_fade_50 rfl
-- HoleWater$Water.comeOut(II)V
theorem dX8_comeOut_40 : decode cX8_comeOut 40 = .ok (.iload_n 3, 1) := by decide +kernel
theorem dX8_comeOut_41 : decode cX8_comeOut 41 = .ok (.iconst 4, 1) := by decide +kernel
theorem dX8_comeOut_42 : decode cX8_comeOut 42 = .ok (.if_icmp .ge 75, 3) := by decide +kernel
theorem dX8_comeOut_117 : decode cX8_comeOut 117 = .ok (.return_, 1) := by decide +kernel
theorem dX8_comeOut_45 : decode cX8_comeOut 45 = .ok (.aload_n 0, 1) := by decide +kernel
theorem dX8_comeOut_46 : decode cX8_comeOut 46 = .ok (.getfield 29, 3) := by decide +kernel
theorem dX8_comeOut_49 : decode cX8_comeOut 49 = .ok (.iload_n 1, 1) := by decide +kernel
theorem dX8_comeOut_50 : decode cX8_comeOut 50 = .ok (.iconst 5, 1) := by decide +kernel
theorem dX8_comeOut_51 : decode cX8_comeOut 51 = .ok (.imul, 1) := by decide +kernel
theorem dX8_comeOut_52 : decode cX8_comeOut 52 = .ok (.iconst 1, 1) := by decide +kernel
theorem dX8_comeOut_53 : decode cX8_comeOut 53 = .ok (.iadd, 1) := by decide +kernel
theorem dX8_comeOut_54 : decode cX8_comeOut 54 = .ok (.iload_n 3, 1) := by decide +kernel
theorem dX8_comeOut_55 : decode cX8_comeOut 55 = .ok (.iadd, 1) := by decide +kernel
theorem dX8_comeOut_56 : decode cX8_comeOut 56 = .ok (.iaload, 1) := by decide +kernel
theorem dX8_comeOut_57 : decode cX8_comeOut 57 = .ok (.istore 4, 2) := by decide +kernel
theorem dX8_comeOut_59 : decode cX8_comeOut 59 = .ok (.aload_n 0, 1) := by decide +kernel
theorem dX8_comeOut_60 : decode cX8_comeOut 60 = .ok (.getfield 29, 3) := by decide +kernel
theorem dX8_comeOut_63 : decode cX8_comeOut 63 = .ok (.iload_n 1, 1) := by decide +kernel
theorem dX8_comeOut_64 : decode cX8_comeOut 64 = .ok (.iconst 5, 1) := by decide +kernel
theorem dX8_comeOut_65 : decode cX8_comeOut 65 = .ok (.imul, 1) := by decide +kernel
theorem dX8_comeOut_66 : decode cX8_comeOut 66 = .ok (.iconst 1, 1) := by decide +kernel
theorem dX8_comeOut_67 : decode cX8_comeOut 67 = .ok (.iadd, 1) := by decide +kernel
theorem dX8_comeOut_68 : decode cX8_comeOut 68 = .ok (.iload_n 3, 1) := by decide +kernel
theorem dX8_comeOut_69 : decode cX8_comeOut 69 = .ok (.iadd, 1) := by decide +kernel
theorem dX8_comeOut_70 : decode cX8_comeOut 70 = .ok (.iconst 0, 1) := by decide +kernel
theorem dX8_comeOut_71 : decode cX8_comeOut 71 = .ok (.iastore, 1) := by decide +kernel
theorem dX8_comeOut_72 : decode cX8_comeOut 72 = .ok (.aload_n 0, 1) := by decide +kernel
theorem dX8_comeOut_73 : decode cX8_comeOut 73 = .ok (.getfield 44, 3) := by decide +kernel
theorem dX8_comeOut_76 : decode cX8_comeOut 76 = .ok (.iload_n 1, 1) := by decide +kernel
theorem dX8_comeOut_77 : decode cX8_comeOut 77 = .ok (.iconst 4, 1) := by decide +kernel
theorem dX8_comeOut_78 : decode cX8_comeOut 78 = .ok (.imul, 1) := by decide +kernel
theorem dX8_comeOut_79 : decode cX8_comeOut 79 = .ok (.iload_n 3, 1) := by decide +kernel
theorem dX8_comeOut_80 : decode cX8_comeOut 80 = .ok (.iadd, 1) := by decide +kernel
theorem dX8_comeOut_81 : decode cX8_comeOut 81 = .ok (.bipush 24, 2) := by decide +kernel
theorem dX8_comeOut_83 : decode cX8_comeOut 83 = .ok (.imul, 1) := by decide +kernel
theorem dX8_comeOut_84 : decode cX8_comeOut 84 = .ok (.aload_n 0, 1) := by decide +kernel
theorem dX8_comeOut_85 : decode cX8_comeOut 85 = .ok (.getfield 9, 3) := by decide +kernel
theorem dX8_comeOut_88 : decode cX8_comeOut 88 = .ok (.bipush 24, 2) := by decide +kernel
theorem dX8_comeOut_90 : decode cX8_comeOut 90 = .ok (.irem, 1) := by decide +kernel
theorem dX8_comeOut_91 : decode cX8_comeOut 91 = .ok (.iadd, 1) := by decide +kernel
theorem dX8_comeOut_92 : decode cX8_comeOut 92 = .ok (.iload 4, 2) := by decide +kernel
theorem dX8_comeOut_94 : decode cX8_comeOut 94 = .ok (.iastore, 1) := by decide +kernel
theorem dX8_comeOut_95 : decode cX8_comeOut 95 = .ok (.aload_n 0, 1) := by decide +kernel
theorem dX8_comeOut_96 : decode cX8_comeOut 96 = .ok (.getfield 26, 3) := by decide +kernel
theorem dX8_comeOut_99 : decode cX8_comeOut 99 = .ok (.iload_n 3, 1) := by decide +kernel
theorem dX8_comeOut_100 : decode cX8_comeOut 100 = .ok (.bipush 7, 2) := by decide +kernel
theorem dX8_comeOut_102 : decode cX8_comeOut 102 = .ok (.imul, 1) := by decide +kernel
theorem dX8_comeOut_103 : decode cX8_comeOut 103 = .ok (.iload_n 2, 1) := by decide +kernel
theorem dX8_comeOut_104 : decode cX8_comeOut 104 = .ok (.iadd, 1) := by decide +kernel
theorem dX8_comeOut_105 : decode cX8_comeOut 105 = .ok (.dup2, 1) := by decide +kernel
theorem dX8_comeOut_106 : decode cX8_comeOut 106 = .ok (.iaload, 1) := by decide +kernel
theorem dX8_comeOut_107 : decode cX8_comeOut 107 = .ok (.iload 4, 2) := by decide +kernel
theorem dX8_comeOut_109 : decode cX8_comeOut 109 = .ok (.iadd, 1) := by decide +kernel
theorem dX8_comeOut_110 : decode cX8_comeOut 110 = .ok (.iastore, 1) := by decide +kernel
theorem dX8_comeOut_111 : decode cX8_comeOut 111 = .ok (.iinc 3 1, 3) := by decide +kernel
theorem dX8_comeOut_114 : decode cX8_comeOut 114 = .ok (.goto (-74), 3) := by decide +kernel
theorem dX8_comeOut_0 : decode cX8_comeOut 0 = .ok (.aload_n 0, 1) := by decide +kernel
theorem dX8_comeOut_1 : decode cX8_comeOut 1 = .ok (.getfield 38, 3) := by decide +kernel
theorem dX8_comeOut_4 : decode cX8_comeOut 4 = .ok (.iload_n 1, 1) := by decide +kernel
theorem dX8_comeOut_5 : decode cX8_comeOut 5 = .ok (.aload_n 0, 1) := by decide +kernel
theorem dX8_comeOut_6 : decode cX8_comeOut 6 = .ok (.getfield 29, 3) := by decide +kernel
theorem dX8_comeOut_9 : decode cX8_comeOut 9 = .ok (.iload_n 1, 1) := by decide +kernel
theorem dX8_comeOut_10 : decode cX8_comeOut 10 = .ok (.iconst 5, 1) := by decide +kernel
theorem dX8_comeOut_11 : decode cX8_comeOut 11 = .ok (.imul, 1) := by decide +kernel
theorem dX8_comeOut_12 : decode cX8_comeOut 12 = .ok (.iaload, 1) := by decide +kernel
theorem dX8_comeOut_13 : decode cX8_comeOut 13 = .ok (.iastore, 1) := by decide +kernel
theorem dX8_comeOut_14 : decode cX8_comeOut 14 = .ok (.aload_n 0, 1) := by decide +kernel
theorem dX8_comeOut_15 : decode cX8_comeOut 15 = .ok (.getfield 41, 3) := by decide +kernel
theorem dX8_comeOut_18 : decode cX8_comeOut 18 = .ok (.iload_n 1, 1) := by decide +kernel
theorem dX8_comeOut_19 : decode cX8_comeOut 19 = .ok (.dup2, 1) := by decide +kernel
theorem dX8_comeOut_20 : decode cX8_comeOut 20 = .ok (.iaload, 1) := by decide +kernel
theorem dX8_comeOut_21 : decode cX8_comeOut 21 = .ok (.aload_n 0, 1) := by decide +kernel
theorem dX8_comeOut_22 : decode cX8_comeOut 22 = .ok (.getfield 38, 3) := by decide +kernel
theorem dX8_comeOut_25 : decode cX8_comeOut 25 = .ok (.iload_n 1, 1) := by decide +kernel
theorem dX8_comeOut_26 : decode cX8_comeOut 26 = .ok (.iaload, 1) := by decide +kernel
theorem dX8_comeOut_27 : decode cX8_comeOut 27 = .ok (.iadd, 1) := by decide +kernel
theorem dX8_comeOut_28 : decode cX8_comeOut 28 = .ok (.iastore, 1) := by decide +kernel
theorem dX8_comeOut_29 : decode cX8_comeOut 29 = .ok (.aload_n 0, 1) := by decide +kernel
theorem dX8_comeOut_30 : decode cX8_comeOut 30 = .ok (.getfield 29, 3) := by decide +kernel
theorem dX8_comeOut_33 : decode cX8_comeOut 33 = .ok (.iload_n 1, 1) := by decide +kernel
theorem dX8_comeOut_34 : decode cX8_comeOut 34 = .ok (.iconst 5, 1) := by decide +kernel
theorem dX8_comeOut_35 : decode cX8_comeOut 35 = .ok (.imul, 1) := by decide +kernel
theorem dX8_comeOut_36 : decode cX8_comeOut 36 = .ok (.iconst 0, 1) := by decide +kernel
theorem dX8_comeOut_37 : decode cX8_comeOut 37 = .ok (.iastore, 1) := by decide +kernel
theorem dX8_comeOut_38 : decode cX8_comeOut 38 = .ok (.iconst 0, 1) := by decide +kernel
theorem dX8_comeOut_39 : decode cX8_comeOut 39 = .ok (.istore_n 3, 1) := by decide +kernel
def D_X8_comeOut_40 (N : Nat) : Nat → mh_H → Nat → Int32 → Int32 → Int32 → Option mh_H
  | 0, _, _, _, _, _ => none
  | F + 1, h, l0, l1, l2, l3 =>
    if (4 : Int32) ≤ l3 then (some h)
    else ((gR h 8 l0 5).bind fun v1 =>
    (aI h v1 (((l1 * (5 : Int32)) + (1 : Int32)) + l3)).bind fun v2 =>
    (gR h 8 l0 5).bind fun v3 =>
    (uI h v3 (((l1 * (5 : Int32)) + (1 : Int32)) + l3) (0 : Int32)).bind fun h4 =>
    (gR h4 8 l0 10).bind fun v5 =>
    (gI h4 8 l0 0).bind fun v6 =>
    dN (24 : Int32) <|
    (uI h4 v5 ((((l1 * (4 : Int32)) + l3) * (24 : Int32)) + (v6 - v6 / (24 : Int32) * (24 : Int32))) v2).bind fun h7 =>
    (gR h7 8 l0 4).bind fun v8 =>
    (aI h7 v8 ((l3 * (7 : Int32)) + l2)).bind fun v9 =>
    (uI h7 v8 ((l3 * (7 : Int32)) + l2) (v9 + v2)).bind fun h10 =>
    (D_X8_comeOut_40 N F) h10 l0 l1 l2 (l3 + Int32.ofInt (1)))
set_option maxHeartbeats 4000000 in
set_option maxRecDepth 100000 in
theorem T_X8_comeOut_40 {P : mh_E → Prop} {N d : Nat} (hd : 1 ≤ d) {z : mh_H} : ∀ (F : Nat) (h : mh_H) (l0 : Nat) (l1 : Int32) (l2 : Int32) (l3 : Int32), D_X8_comeOut_40 N F h l0 l1 l2 l3 = some z → mh_go P d mX8_comeOut 40 [some (.ref l0), some (.int l1), some (.int l2), some (.int l3), none] [] h none z := by
  intro F
  induction F with
  | zero => intro h l0 l1 l2 l3 hq; rw [D_X8_comeOut_40] at hq; cases hq
  | succ F ih =>
    intro h l0 l1 l2 l3 hq
    rw [D_X8_comeOut_40] at hq
    refine st_iload_n (pc := 40) dX8_comeOut_40 rfl ?_
    refine st_iconst (pc := 41) (v := (4 : Int32)) dX8_comeOut_41 rfl ?_
    refine bd_icmp_ge (pc := 42) (tgt := 117) hq dX8_comeOut_42 (by decide) (fun _ hq => ?_) (fun _ hq => ?_)
    ·
      exact bd_vret (pc := 117) hq dX8_comeOut_117 rfl
    ·
      refine st_aload_n (pc := 45) dX8_comeOut_45 rfl ?_
      refine bd_getr (pc := 46) hq dX8_comeOut_46 fl_8_29_8 rfl (fun v1 hq => ?_)
      refine st_iload_n (pc := 49) dX8_comeOut_49 rfl ?_
      refine st_iconst (pc := 50) (v := (5 : Int32)) dX8_comeOut_50 rfl ?_
      refine st_imul (pc := 51) dX8_comeOut_51 ?_
      refine st_iconst (pc := 52) (v := (1 : Int32)) dX8_comeOut_52 rfl ?_
      refine st_iadd (pc := 53) dX8_comeOut_53 ?_
      refine st_iload_n (pc := 54) dX8_comeOut_54 rfl ?_
      refine st_iadd (pc := 55) dX8_comeOut_55 ?_
      refine bd_iald (pc := 56) hq dX8_comeOut_56 (fun v2 hq => ?_)
      refine st_istore (pc := 57) (lv' := [some (.ref l0), some (.int l1), some (.int l2), some (.int l3), some (.int v2)]) dX8_comeOut_57 rfl (by decide) rfl ?_
      refine st_aload_n (pc := 59) dX8_comeOut_59 rfl ?_
      refine bd_getr (pc := 60) hq dX8_comeOut_60 fl_8_29_8 rfl (fun v3 hq => ?_)
      refine st_iload_n (pc := 63) dX8_comeOut_63 rfl ?_
      refine st_iconst (pc := 64) (v := (5 : Int32)) dX8_comeOut_64 rfl ?_
      refine st_imul (pc := 65) dX8_comeOut_65 ?_
      refine st_iconst (pc := 66) (v := (1 : Int32)) dX8_comeOut_66 rfl ?_
      refine st_iadd (pc := 67) dX8_comeOut_67 ?_
      refine st_iload_n (pc := 68) dX8_comeOut_68 rfl ?_
      refine st_iadd (pc := 69) dX8_comeOut_69 ?_
      refine st_iconst (pc := 70) (v := (0 : Int32)) dX8_comeOut_70 rfl ?_
      refine bd_iast (pc := 71) hq dX8_comeOut_71 (fun h4 hq => ?_)
      refine st_aload_n (pc := 72) dX8_comeOut_72 rfl ?_
      refine bd_getr (pc := 73) hq dX8_comeOut_73 fl_8_44_8 rfl (fun v5 hq => ?_)
      refine st_iload_n (pc := 76) dX8_comeOut_76 rfl ?_
      refine st_iconst (pc := 77) (v := (4 : Int32)) dX8_comeOut_77 rfl ?_
      refine st_imul (pc := 78) dX8_comeOut_78 ?_
      refine st_iload_n (pc := 79) dX8_comeOut_79 rfl ?_
      refine st_iadd (pc := 80) dX8_comeOut_80 ?_
      refine st_bipush (pc := 81) (v := (24 : Int32)) dX8_comeOut_81 (by decide) ?_
      refine st_imul (pc := 83) dX8_comeOut_83 ?_
      refine st_aload_n (pc := 84) dX8_comeOut_84 rfl ?_
      refine bd_geti (pc := 85) hq dX8_comeOut_85 fl_8_9_8 rfl (fun v6 hq => ?_)
      refine st_bipush (pc := 88) (v := (24 : Int32)) dX8_comeOut_88 (by decide) ?_
      refine bd_irem (pc := 90) hq dX8_comeOut_90 (fun hq => ?_)
      refine st_iadd (pc := 91) dX8_comeOut_91 ?_
      refine st_iload (pc := 92) dX8_comeOut_92 rfl ?_
      refine bd_iast (pc := 94) hq dX8_comeOut_94 (fun h7 hq => ?_)
      refine st_aload_n (pc := 95) dX8_comeOut_95 rfl ?_
      refine bd_getr (pc := 96) hq dX8_comeOut_96 fl_8_26_8 rfl (fun v8 hq => ?_)
      refine st_iload_n (pc := 99) dX8_comeOut_99 rfl ?_
      refine st_bipush (pc := 100) (v := (7 : Int32)) dX8_comeOut_100 (by decide) ?_
      refine st_imul (pc := 102) dX8_comeOut_102 ?_
      refine st_iload_n (pc := 103) dX8_comeOut_103 rfl ?_
      refine st_iadd (pc := 104) dX8_comeOut_104 ?_
      refine st_dup2 (pc := 105) dX8_comeOut_105 rfl rfl ?_
      refine bd_iald (pc := 106) hq dX8_comeOut_106 (fun v9 hq => ?_)
      refine st_iload (pc := 107) dX8_comeOut_107 rfl ?_
      refine st_iadd (pc := 109) dX8_comeOut_109 ?_
      refine bd_iast (pc := 110) hq dX8_comeOut_110 (fun h10 hq => ?_)
      refine st_iinc (pc := 111) (lv' := [some (.ref l0), some (.int l1), some (.int l2), some (.int (l3 + Int32.ofInt (1))), some (.int v2)]) dX8_comeOut_111 rfl rfl (by decide) rfl ?_
      refine st_goto (pc := 114) (tgt := 40) dX8_comeOut_114 (by decide) ?_
      refine st_lesS (lv' := [some (.ref l0), some (.int l1), some (.int l2), some (.int (l3 + Int32.ofInt (1))), none]) ⟨Or.inr rfl, Or.inr rfl, Or.inr rfl, Or.inr rfl, Or.inl rfl, trivial⟩ ?_
      exact ih _ _ _ _ _ hq
def D_X8_comeOut (N : Nat) (h : mh_H) (l0 : Nat) (l1 : Int32) (l2 : Int32) : Option mh_H :=
  (gR h 8 l0 8).bind fun v1 =>
  (gR h 8 l0 5).bind fun v2 =>
  (aI h v2 (l1 * (5 : Int32))).bind fun v3 =>
  (uI h v1 l1 v3).bind fun h4 =>
  (gR h4 8 l0 9).bind fun v5 =>
  (aI h4 v5 l1).bind fun v6 =>
  (gR h4 8 l0 8).bind fun v7 =>
  (aI h4 v7 l1).bind fun v8 =>
  (uI h4 v5 l1 (v6 + v8)).bind fun h9 =>
  (gR h9 8 l0 5).bind fun v10 =>
  (uI h9 v10 (l1 * (5 : Int32)) (0 : Int32)).bind fun h11 =>
  D_X8_comeOut_40 N N h11 l0 l1 l2 (0 : Int32)
set_option maxHeartbeats 4000000 in
set_option maxRecDepth 100000 in
theorem T_X8_comeOut {P : mh_E → Prop} {N d : Nat} (hd : 1 ≤ d) {z : mh_H} {h : mh_H} {l0 : Nat} {l1 : Int32} {l2 : Int32} (hq : D_X8_comeOut N h l0 l1 l2 = some z) : mh_go P d mX8_comeOut 0 [some (.ref l0), some (.int l1), some (.int l2), none, none] [] h none z := by
  unfold D_X8_comeOut at hq
  refine st_aload_n (pc := 0) dX8_comeOut_0 rfl ?_
  refine bd_getr (pc := 1) hq dX8_comeOut_1 fl_8_38_8 rfl (fun v1 hq => ?_)
  refine st_iload_n (pc := 4) dX8_comeOut_4 rfl ?_
  refine st_aload_n (pc := 5) dX8_comeOut_5 rfl ?_
  refine bd_getr (pc := 6) hq dX8_comeOut_6 fl_8_29_8 rfl (fun v2 hq => ?_)
  refine st_iload_n (pc := 9) dX8_comeOut_9 rfl ?_
  refine st_iconst (pc := 10) (v := (5 : Int32)) dX8_comeOut_10 rfl ?_
  refine st_imul (pc := 11) dX8_comeOut_11 ?_
  refine bd_iald (pc := 12) hq dX8_comeOut_12 (fun v3 hq => ?_)
  refine bd_iast (pc := 13) hq dX8_comeOut_13 (fun h4 hq => ?_)
  refine st_aload_n (pc := 14) dX8_comeOut_14 rfl ?_
  refine bd_getr (pc := 15) hq dX8_comeOut_15 fl_8_41_8 rfl (fun v5 hq => ?_)
  refine st_iload_n (pc := 18) dX8_comeOut_18 rfl ?_
  refine st_dup2 (pc := 19) dX8_comeOut_19 rfl rfl ?_
  refine bd_iald (pc := 20) hq dX8_comeOut_20 (fun v6 hq => ?_)
  refine st_aload_n (pc := 21) dX8_comeOut_21 rfl ?_
  refine bd_getr (pc := 22) hq dX8_comeOut_22 fl_8_38_8 rfl (fun v7 hq => ?_)
  refine st_iload_n (pc := 25) dX8_comeOut_25 rfl ?_
  refine bd_iald (pc := 26) hq dX8_comeOut_26 (fun v8 hq => ?_)
  refine st_iadd (pc := 27) dX8_comeOut_27 ?_
  refine bd_iast (pc := 28) hq dX8_comeOut_28 (fun h9 hq => ?_)
  refine st_aload_n (pc := 29) dX8_comeOut_29 rfl ?_
  refine bd_getr (pc := 30) hq dX8_comeOut_30 fl_8_29_8 rfl (fun v10 hq => ?_)
  refine st_iload_n (pc := 33) dX8_comeOut_33 rfl ?_
  refine st_iconst (pc := 34) (v := (5 : Int32)) dX8_comeOut_34 rfl ?_
  refine st_imul (pc := 35) dX8_comeOut_35 ?_
  refine st_iconst (pc := 36) (v := (0 : Int32)) dX8_comeOut_36 rfl ?_
  refine bd_iast (pc := 37) hq dX8_comeOut_37 (fun h11 hq => ?_)
  refine st_iconst (pc := 38) (v := (0 : Int32)) dX8_comeOut_38 rfl ?_
  refine st_istore_n (pc := 39) (lv' := [some (.ref l0), some (.int l1), some (.int l2), some (.int (0 : Int32)), none]) dX8_comeOut_39 rfl (by decide) rfl ?_
  exact T_X8_comeOut_40 hd N _ _ _ _ _ hq
-- HoleWater.by(II)I
theorem dX11_by_0 : decode cX11_by 0 = .ok (.iload_n 1, 1) := by decide +kernel
theorem dX11_by_1 : decode cX11_by 1 = .ok (.ifCond .ne 7, 3) := by decide +kernel
theorem dX11_by_4 : decode cX11_by 4 = .ok (.iconst 0, 1) := by decide +kernel
theorem dX11_by_5 : decode cX11_by 5 = .ok (.goto 6, 3) := by decide +kernel
theorem dX11_by_11 : decode cX11_by 11 = .ok (.ireturn, 1) := by decide +kernel
theorem dX11_by_8 : decode cX11_by 8 = .ok (.iload_n 0, 1) := by decide +kernel
theorem dX11_by_9 : decode cX11_by 9 = .ok (.iload_n 1, 1) := by decide +kernel
theorem dX11_by_10 : decode cX11_by 10 = .ok (.idiv, 1) := by decide +kernel
def D_X11_by (N : Nat) (h : mh_H) (l0 : Int32) (l1 : Int32) : Option (Int32 × mh_H) :=
  if l1 = 0 then (some ((0 : Int32), h))
  else (dN l1 <|
  some (l0 / l1, h))
set_option maxHeartbeats 4000000 in
set_option maxRecDepth 100000 in
theorem T_X11_by {P : mh_E → Prop} {N d : Nat} (hd : 1 ≤ d) {z : (Int32 × mh_H)} {h : mh_H} {l0 : Int32} {l1 : Int32} (hq : D_X11_by N h l0 l1 = some z) : mh_go P d mX11_by 0 [some (.int l0), some (.int l1)] [] h (some (.int z.1)) z.2 := by
  unfold D_X11_by at hq
  refine st_iload_n (pc := 0) dX11_by_0 rfl ?_
  refine bd_if_ne (pc := 1) (tgt := 8) hq dX11_by_1 (by decide) (fun _ hq => ?_) (fun _ hq => ?_)
  ·
    refine st_iconst (pc := 4) (v := (0 : Int32)) dX11_by_4 rfl ?_
    refine st_goto (pc := 5) (tgt := 11) dX11_by_5 (by decide) ?_
    exact bd_iret (pc := 11) hq dX11_by_11 rfl
  ·
    refine st_iload_n (pc := 8) dX11_by_8 rfl ?_
    refine st_iload_n (pc := 9) dX11_by_9 rfl ?_
    refine bd_idiv (pc := 10) hq dX11_by_10 (fun hq => ?_)
    exact bd_iret (pc := 11) hq dX11_by_11 rfl
-- HoleWater$Pool.lets(I)I
theorem dX4_lets_0 : decode cX4_lets 0 = .ok (.iload_n 1, 1) := by decide +kernel
theorem dX4_lets_1 : decode cX4_lets 1 = .ok (.aload_n 0, 1) := by decide +kernel
theorem dX4_lets_2 : decode cX4_lets 2 = .ok (.getfield 7, 3) := by decide +kernel
theorem dX4_lets_5 : decode cX4_lets 5 = .ok (.invokestatic 13, 3) := by decide +kernel
theorem dX4_lets_8 : decode cX4_lets 8 = .ok (.istore_n 2, 1) := by decide +kernel
theorem dX4_lets_9 : decode cX4_lets 9 = .ok (.iload_n 2, 1) := by decide +kernel
theorem dX4_lets_10 : decode cX4_lets 10 = .ok (.aload_n 0, 1) := by decide +kernel
theorem dX4_lets_11 : decode cX4_lets 11 = .ok (.getfield 7, 3) := by decide +kernel
theorem dX4_lets_14 : decode cX4_lets 14 = .ok (.imul, 1) := by decide +kernel
theorem dX4_lets_15 : decode cX4_lets 15 = .ok (.iload_n 1, 1) := by decide +kernel
theorem dX4_lets_16 : decode cX4_lets 16 = .ok (.if_icmp .ne 7, 3) := by decide +kernel
theorem dX4_lets_19 : decode cX4_lets 19 = .ok (.iload_n 2, 1) := by decide +kernel
theorem dX4_lets_20 : decode cX4_lets 20 = .ok (.goto 6, 3) := by decide +kernel
theorem dX4_lets_26 : decode cX4_lets 26 = .ok (.ireturn, 1) := by decide +kernel
theorem dX4_lets_23 : decode cX4_lets 23 = .ok (.iload_n 2, 1) := by decide +kernel
theorem dX4_lets_24 : decode cX4_lets 24 = .ok (.iconst 1, 1) := by decide +kernel
theorem dX4_lets_25 : decode cX4_lets 25 = .ok (.iadd, 1) := by decide +kernel
def D_X4_lets (N : Nat) (h : mh_H) (l0 : Nat) (l1 : Int32) : Option (Int32 × mh_H) :=
  (gW h l0 3).bind fun v1 =>
  (D_X11_by N h l1 v1).bind fun q2 =>
  (gW q2.2 l0 3).bind fun v3 =>
  if (q2.1 * v3) = l1 then (some (q2.1, q2.2))
  else (some (q2.1 + (1 : Int32), q2.2))
set_option maxHeartbeats 4000000 in
set_option maxRecDepth 100000 in
theorem T_X4_lets {P : mh_E → Prop} {N d : Nat} (hd : 2 ≤ d) {z : (Int32 × mh_H)} {h : mh_H} {l0 : Nat} {l1 : Int32} (hq : D_X4_lets N h l0 l1 = some z) : mh_go P d mX4_lets 0 [some (.ref l0), some (.int l1), none] [] h (some (.int z.1)) z.2 := by
  unfold D_X4_lets at hq
  refine st_iload_n (pc := 0) dX4_lets_0 rfl ?_
  refine st_aload_n (pc := 1) dX4_lets_1 rfl ?_
  refine bd_getw (pc := 2) hq dX4_lets_2 flw_4_7 (by decide) (fun v1 hq => ?_)
  obtain ⟨q2, e2, hq⟩ := mh_ob hq
  refine st_invSN (pc := 5) (Y := mX11_by) (vs := [.int l1, .int v1]) (rest := []) (st2 := [.int q2.1]) dX4_lets_5 okX11_by wn_538 wd_539 pdX11_by rfl rfl rfl rfl (Nat.le_trans (by decide) hd) (Nat.le_of_ble_eq_true rfl) (T_X11_by (Nat.le_refl _) e2) rfl ?_
  refine st_istore_n (pc := 8) (lv' := [some (.ref l0), some (.int l1), some (.int q2.1)]) dX4_lets_8 rfl (by decide) rfl ?_
  refine st_iload_n (pc := 9) dX4_lets_9 rfl ?_
  refine st_aload_n (pc := 10) dX4_lets_10 rfl ?_
  refine bd_getw (pc := 11) hq dX4_lets_11 flw_4_7 (by decide) (fun v3 hq => ?_)
  refine st_imul (pc := 14) dX4_lets_14 ?_
  refine st_iload_n (pc := 15) dX4_lets_15 rfl ?_
  refine bd_icmp_ne (pc := 16) (tgt := 23) hq dX4_lets_16 (by decide) (fun _ hq => ?_) (fun _ hq => ?_)
  ·
    refine st_iload_n (pc := 19) dX4_lets_19 rfl ?_
    refine st_goto (pc := 20) (tgt := 26) dX4_lets_20 (by decide) ?_
    exact bd_iret (pc := 26) hq dX4_lets_26 rfl
  ·
    refine st_iload_n (pc := 23) dX4_lets_23 rfl ?_
    refine st_iconst (pc := 24) (v := (1 : Int32)) dX4_lets_24 rfl ?_
    refine st_iadd (pc := 25) dX4_lets_25 ?_
    exact bd_iret (pc := 26) hq dX4_lets_26 rfl
-- HoleWater$Water.fadeAway(III)I
theorem dX8_fadeAway_0 : decode cX8_fadeAway 0 = .ok (.iload_n 2, 1) := by decide +kernel
theorem dX8_fadeAway_1 : decode cX8_fadeAway 1 = .ok (.bipush 100, 2) := by decide +kernel
theorem dX8_fadeAway_3 : decode cX8_fadeAway 3 = .ok (.aload_n 0, 1) := by decide +kernel
theorem dX8_fadeAway_4 : decode cX8_fadeAway 4 = .ok (.getfield 22, 3) := by decide +kernel
theorem dX8_fadeAway_7 : decode cX8_fadeAway 7 = .ok (.iload_n 1, 1) := by decide +kernel
theorem dX8_fadeAway_8 : decode cX8_fadeAway 8 = .ok (.iaload, 1) := by decide +kernel
theorem dX8_fadeAway_9 : decode cX8_fadeAway 9 = .ok (.iload_n 3, 1) := by decide +kernel
theorem dX8_fadeAway_10 : decode cX8_fadeAway 10 = .ok (.imul, 1) := by decide +kernel
theorem dX8_fadeAway_11 : decode cX8_fadeAway 11 = .ok (.invokestatic 119, 3) := by decide +kernel
theorem dX8_fadeAway_14 : decode cX8_fadeAway 14 = .ok (.imul, 1) := by decide +kernel
theorem dX8_fadeAway_15 : decode cX8_fadeAway 15 = .ok (.bipush 100, 2) := by decide +kernel
theorem dX8_fadeAway_17 : decode cX8_fadeAway 17 = .ok (.idiv, 1) := by decide +kernel
theorem dX8_fadeAway_18 : decode cX8_fadeAway 18 = .ok (.istore 4, 2) := by decide +kernel
theorem dX8_fadeAway_20 : decode cX8_fadeAway 20 = .ok (.aload_n 0, 1) := by decide +kernel
theorem dX8_fadeAway_21 : decode cX8_fadeAway 21 = .ok (.getfield 26, 3) := by decide +kernel
theorem dX8_fadeAway_24 : decode cX8_fadeAway 24 = .ok (.iload_n 1, 1) := by decide +kernel
theorem dX8_fadeAway_25 : decode cX8_fadeAway 25 = .ok (.bipush 7, 2) := by decide +kernel
theorem dX8_fadeAway_27 : decode cX8_fadeAway 27 = .ok (.imul, 1) := by decide +kernel
theorem dX8_fadeAway_28 : decode cX8_fadeAway 28 = .ok (.iconst 3, 1) := by decide +kernel
theorem dX8_fadeAway_29 : decode cX8_fadeAway 29 = .ok (.iadd, 1) := by decide +kernel
theorem dX8_fadeAway_30 : decode cX8_fadeAway 30 = .ok (.dup2, 1) := by decide +kernel
theorem dX8_fadeAway_31 : decode cX8_fadeAway 31 = .ok (.iaload, 1) := by decide +kernel
theorem dX8_fadeAway_32 : decode cX8_fadeAway 32 = .ok (.iload 4, 2) := by decide +kernel
theorem dX8_fadeAway_34 : decode cX8_fadeAway 34 = .ok (.iadd, 1) := by decide +kernel
theorem dX8_fadeAway_35 : decode cX8_fadeAway 35 = .ok (.iastore, 1) := by decide +kernel
theorem dX8_fadeAway_36 : decode cX8_fadeAway 36 = .ok (.iload 4, 2) := by decide +kernel
theorem dX8_fadeAway_38 : decode cX8_fadeAway 38 = .ok (.ireturn, 1) := by decide +kernel
def D_X8_fadeAway (N : Nat) (h : mh_H) (l0 : Nat) (l1 : Int32) (l2 : Int32) (l3 : Int32) : Option (Int32 × mh_H) :=
  (gR h 8 l0 3).bind fun v1 =>
  (aI h v1 l1).bind fun v2 =>
  dN (100 : Int32) <|
  mh_let ((l2 * (mh_min (100 : Int32) (v2 * l3))) / (100 : Int32)) fun v3 =>
  (gR h 8 l0 4).bind fun v4 =>
  (aI h v4 ((l1 * (7 : Int32)) + (3 : Int32))).bind fun v5 =>
  (uI h v4 ((l1 * (7 : Int32)) + (3 : Int32)) (v5 + v3)).bind fun h6 =>
  some (v3, h6)
set_option maxHeartbeats 4000000 in
set_option maxRecDepth 100000 in
theorem T_X8_fadeAway {P : mh_E → Prop} {N d : Nat} (hd : 1 ≤ d) {z : (Int32 × mh_H)} {h : mh_H} {l0 : Nat} {l1 : Int32} {l2 : Int32} {l3 : Int32} (hq : D_X8_fadeAway N h l0 l1 l2 l3 = some z) : mh_go P d mX8_fadeAway 0 [some (.ref l0), some (.int l1), some (.int l2), some (.int l3), none] [] h (some (.int z.1)) z.2 := by
  unfold D_X8_fadeAway at hq
  refine st_iload_n (pc := 0) dX8_fadeAway_0 rfl ?_
  refine st_bipush (pc := 1) (v := (100 : Int32)) dX8_fadeAway_1 (by decide) ?_
  refine st_aload_n (pc := 3) dX8_fadeAway_3 rfl ?_
  refine bd_getr (pc := 4) hq dX8_fadeAway_4 fl_8_22_8 rfl (fun v1 hq => ?_)
  refine st_iload_n (pc := 7) dX8_fadeAway_7 rfl ?_
  refine bd_iald (pc := 8) hq dX8_fadeAway_8 (fun v2 hq => ?_)
  refine st_iload_n (pc := 9) dX8_fadeAway_9 rfl ?_
  refine st_imul (pc := 10) dX8_fadeAway_10 ?_
  refine st_mmin (pc := 11) dX8_fadeAway_11 wd_530 (Nat.le_trans (by decide) hd) (Nat.le_of_ble_eq_true rfl) ?_
  refine st_imul (pc := 14) dX8_fadeAway_14 ?_
  refine st_bipush (pc := 15) (v := (100 : Int32)) dX8_fadeAway_15 (by decide) ?_
  refine bd_idiv (pc := 17) hq dX8_fadeAway_17 (fun hq => ?_)
  refine bd_leti hq (fun v3 hq => ?_)
  refine st_istore (pc := 18) (lv' := [some (.ref l0), some (.int l1), some (.int l2), some (.int l3), some (.int v3)]) dX8_fadeAway_18 rfl (by decide) rfl ?_
  refine st_aload_n (pc := 20) dX8_fadeAway_20 rfl ?_
  refine bd_getr (pc := 21) hq dX8_fadeAway_21 fl_8_26_8 rfl (fun v4 hq => ?_)
  refine st_iload_n (pc := 24) dX8_fadeAway_24 rfl ?_
  refine st_bipush (pc := 25) (v := (7 : Int32)) dX8_fadeAway_25 (by decide) ?_
  refine st_imul (pc := 27) dX8_fadeAway_27 ?_
  refine st_iconst (pc := 28) (v := (3 : Int32)) dX8_fadeAway_28 rfl ?_
  refine st_iadd (pc := 29) dX8_fadeAway_29 ?_
  refine st_dup2 (pc := 30) dX8_fadeAway_30 rfl rfl ?_
  refine bd_iald (pc := 31) hq dX8_fadeAway_31 (fun v5 hq => ?_)
  refine st_iload (pc := 32) dX8_fadeAway_32 rfl ?_
  refine st_iadd (pc := 34) dX8_fadeAway_34 ?_
  refine bd_iast (pc := 35) hq dX8_fadeAway_35 (fun h6 hq => ?_)
  refine st_iload (pc := 36) dX8_fadeAway_36 rfl ?_
  exact bd_iret (pc := 38) hq dX8_fadeAway_38 rfl
-- HoleWater$Water.slotNow(II)I
theorem dX8_slotNow_21 : decode cX8_slotNow 21 = .ok (.istore_n 3, 1) := by decide +kernel
theorem dX8_slotNow_22 : decode cX8_slotNow 22 = .ok (.iload_n 1, 1) := by decide +kernel
theorem dX8_slotNow_23 : decode cX8_slotNow 23 = .ok (.bipush 40, 2) := by decide +kernel
theorem dX8_slotNow_25 : decode cX8_slotNow 25 = .ok (.imul, 1) := by decide +kernel
theorem dX8_slotNow_26 : decode cX8_slotNow 26 = .ok (.iload_n 3, 1) := by decide +kernel
theorem dX8_slotNow_27 : decode cX8_slotNow 27 = .ok (.iadd, 1) := by decide +kernel
theorem dX8_slotNow_28 : decode cX8_slotNow 28 = .ok (.iconst 5, 1) := by decide +kernel
theorem dX8_slotNow_29 : decode cX8_slotNow 29 = .ok (.imul, 1) := by decide +kernel
theorem dX8_slotNow_30 : decode cX8_slotNow 30 = .ok (.ireturn, 1) := by decide +kernel
theorem dX8_slotNow_11 : decode cX8_slotNow 11 = .ok (.iconst 0, 1) := by decide +kernel
theorem dX8_slotNow_12 : decode cX8_slotNow 12 = .ok (.goto 9, 3) := by decide +kernel
theorem dX8_slotNow_0 : decode cX8_slotNow 0 = .ok (.iload_n 2, 1) := by decide +kernel
theorem dX8_slotNow_1 : decode cX8_slotNow 1 = .ok (.iconst 1, 1) := by decide +kernel
theorem dX8_slotNow_2 : decode cX8_slotNow 2 = .ok (.if_icmp .lt 9, 3) := by decide +kernel
theorem dX8_slotNow_5 : decode cX8_slotNow 5 = .ok (.iload_n 2, 1) := by decide +kernel
theorem dX8_slotNow_6 : decode cX8_slotNow 6 = .ok (.bipush 40, 2) := by decide +kernel
theorem dX8_slotNow_8 : decode cX8_slotNow 8 = .ok (.if_icmp .le 7, 3) := by decide +kernel
theorem dX8_slotNow_15 : decode cX8_slotNow 15 = .ok (.aload_n 0, 1) := by decide +kernel
theorem dX8_slotNow_16 : decode cX8_slotNow 16 = .ok (.getfield 9, 3) := by decide +kernel
theorem dX8_slotNow_19 : decode cX8_slotNow 19 = .ok (.iload_n 2, 1) := by decide +kernel
theorem dX8_slotNow_20 : decode cX8_slotNow 20 = .ok (.irem, 1) := by decide +kernel
def D_X8_slotNow_21 (N : Nat) (h : mh_H) (l1 : Int32) (s0 : Int32) : Option (Int32 × mh_H) :=
  some (((l1 * (40 : Int32)) + s0) * (5 : Int32), h)
set_option maxHeartbeats 4000000 in
set_option maxRecDepth 100000 in
theorem T_X8_slotNow_21 {P : mh_E → Prop} {N d : Nat} (hd : 1 ≤ d) {z : (Int32 × mh_H)} {h : mh_H} {l1 : Int32} {s0 : Int32} (hq : D_X8_slotNow_21 N h l1 s0 = some z) : mh_go P d mX8_slotNow 21 [none, some (.int l1), none, none] [.int s0] h (some (.int z.1)) z.2 := by
  unfold D_X8_slotNow_21 at hq
  refine st_istore_n (pc := 21) (lv' := [none, some (.int l1), none, some (.int s0)]) dX8_slotNow_21 rfl (by decide) rfl ?_
  refine st_iload_n (pc := 22) dX8_slotNow_22 rfl ?_
  refine st_bipush (pc := 23) (v := (40 : Int32)) dX8_slotNow_23 (by decide) ?_
  refine st_imul (pc := 25) dX8_slotNow_25 ?_
  refine st_iload_n (pc := 26) dX8_slotNow_26 rfl ?_
  refine st_iadd (pc := 27) dX8_slotNow_27 ?_
  refine st_iconst (pc := 28) (v := (5 : Int32)) dX8_slotNow_28 rfl ?_
  refine st_imul (pc := 29) dX8_slotNow_29 ?_
  exact bd_iret (pc := 30) hq dX8_slotNow_30 rfl
def D_X8_slotNow_11 (N : Nat) (h : mh_H) (l1 : Int32) : Option (Int32 × mh_H) :=
  D_X8_slotNow_21 N h l1 (0 : Int32)
set_option maxHeartbeats 4000000 in
set_option maxRecDepth 100000 in
theorem T_X8_slotNow_11 {P : mh_E → Prop} {N d : Nat} (hd : 1 ≤ d) {z : (Int32 × mh_H)} {h : mh_H} {l1 : Int32} (hq : D_X8_slotNow_11 N h l1 = some z) : mh_go P d mX8_slotNow 11 [none, some (.int l1), none, none] [] h (some (.int z.1)) z.2 := by
  unfold D_X8_slotNow_11 at hq
  refine st_iconst (pc := 11) (v := (0 : Int32)) dX8_slotNow_11 rfl ?_
  refine st_goto (pc := 12) (tgt := 21) dX8_slotNow_12 (by decide) ?_
  exact T_X8_slotNow_21 hd hq
def D_X8_slotNow (N : Nat) (h : mh_H) (l0 : Nat) (l1 : Int32) (l2 : Int32) : Option (Int32 × mh_H) :=
  if l2 < (1 : Int32) then (D_X8_slotNow_11 N h l1)
  else (if l2 ≤ (40 : Int32) then ((gI h 8 l0 0).bind fun v1 =>
  dN l2 <|
  D_X8_slotNow_21 N h l1 (v1 - v1 / l2 * l2))
  else (D_X8_slotNow_11 N h l1))
set_option maxHeartbeats 4000000 in
set_option maxRecDepth 100000 in
theorem T_X8_slotNow {P : mh_E → Prop} {N d : Nat} (hd : 1 ≤ d) {z : (Int32 × mh_H)} {h : mh_H} {l0 : Nat} {l1 : Int32} {l2 : Int32} (hq : D_X8_slotNow N h l0 l1 l2 = some z) : mh_go P d mX8_slotNow 0 [some (.ref l0), some (.int l1), some (.int l2), none] [] h (some (.int z.1)) z.2 := by
  unfold D_X8_slotNow at hq
  refine st_iload_n (pc := 0) dX8_slotNow_0 rfl ?_
  refine st_iconst (pc := 1) (v := (1 : Int32)) dX8_slotNow_1 rfl ?_
  refine bd_icmp_lt (pc := 2) (tgt := 11) hq dX8_slotNow_2 (by decide) (fun _ hq => ?_) (fun _ hq => ?_)
  ·
    refine st_lesS (lv' := [none, some (.int l1), none, none]) ⟨Or.inl rfl, Or.inr rfl, Or.inl rfl, Or.inr rfl, trivial⟩ ?_
    exact T_X8_slotNow_11 hd hq
  ·
    refine st_iload_n (pc := 5) dX8_slotNow_5 rfl ?_
    refine st_bipush (pc := 6) (v := (40 : Int32)) dX8_slotNow_6 (by decide) ?_
    refine bd_icmp_le (pc := 8) (tgt := 15) hq dX8_slotNow_8 (by decide) (fun _ hq => ?_) (fun _ hq => ?_)
    ·
      refine st_aload_n (pc := 15) dX8_slotNow_15 rfl ?_
      refine bd_geti (pc := 16) hq dX8_slotNow_16 fl_8_9_8 rfl (fun v1 hq => ?_)
      refine st_iload_n (pc := 19) dX8_slotNow_19 rfl ?_
      refine bd_irem (pc := 20) hq dX8_slotNow_20 (fun hq => ?_)
      refine st_lesS (lv' := [none, some (.int l1), none, none]) ⟨Or.inl rfl, Or.inr rfl, Or.inl rfl, Or.inr rfl, trivial⟩ ?_
      exact T_X8_slotNow_21 hd hq
    ·
      refine st_lesS (lv' := [none, some (.int l1), none, none]) ⟨Or.inl rfl, Or.inr rfl, Or.inl rfl, Or.inr rfl, trivial⟩ ?_
      exact T_X8_slotNow_11 hd hq
-- HoleWater$Water.leave(ILHoleWater$Way;)V
theorem dX8_leave_120 : decode cX8_leave 120 = .ok (.aload_n 0, 1) := by decide +kernel
theorem dX8_leave_121 : decode cX8_leave 121 = .ok (.getfield 29, 3) := by decide +kernel
theorem dX8_leave_124 : decode cX8_leave 124 = .ok (.aload_n 2, 1) := by decide +kernel
theorem dX8_leave_125 : decode cX8_leave 125 = .ok (.getfield 116, 3) := by decide +kernel
theorem dX8_leave_128 : decode cX8_leave 128 = .ok (.iconst 5, 1) := by decide +kernel
theorem dX8_leave_129 : decode cX8_leave 129 = .ok (.imul, 1) := by decide +kernel
theorem dX8_leave_130 : decode cX8_leave 130 = .ok (.iload 5, 2) := by decide +kernel
theorem dX8_leave_132 : decode cX8_leave 132 = .ok (.iadd, 1) := by decide +kernel
theorem dX8_leave_133 : decode cX8_leave 133 = .ok (.dup2, 1) := by decide +kernel
theorem dX8_leave_134 : decode cX8_leave 134 = .ok (.iaload, 1) := by decide +kernel
theorem dX8_leave_135 : decode cX8_leave 135 = .ok (.iload 6, 2) := by decide +kernel
theorem dX8_leave_137 : decode cX8_leave 137 = .ok (.iadd, 1) := by decide +kernel
theorem dX8_leave_138 : decode cX8_leave 138 = .ok (.iastore, 1) := by decide +kernel
theorem dX8_leave_139 : decode cX8_leave 139 = .ok (.iinc 5 1, 3) := by decide +kernel
theorem dX8_leave_142 : decode cX8_leave 142 = .ok (.goto (-126), 3) := by decide +kernel
theorem dX8_leave_66 : decode cX8_leave 66 = .ok (.aload_n 2, 1) := by decide +kernel
theorem dX8_leave_67 : decode cX8_leave 67 = .ok (.instanceof 110, 3) := by decide +kernel
theorem dX8_leave_70 : decode cX8_leave 70 = .ok (.ifCond .eq 50, 3) := by decide +kernel
theorem dX8_leave_73 : decode cX8_leave 73 = .ok (.aload_n 2, 1) := by decide +kernel
theorem dX8_leave_74 : decode cX8_leave 74 = .ok (.checkcast 110, 3) := by decide +kernel
theorem dX8_leave_77 : decode cX8_leave 77 = .ok (.astore 7, 2) := by decide +kernel
theorem dX8_leave_79 : decode cX8_leave 79 = .ok (.aload_n 0, 1) := by decide +kernel
theorem dX8_leave_80 : decode cX8_leave 80 = .ok (.getfield 35, 3) := by decide +kernel
theorem dX8_leave_83 : decode cX8_leave 83 = .ok (.iload_n 1, 1) := by decide +kernel
theorem dX8_leave_84 : decode cX8_leave 84 = .ok (.iconst 5, 1) := by decide +kernel
theorem dX8_leave_85 : decode cX8_leave 85 = .ok (.imul, 1) := by decide +kernel
theorem dX8_leave_86 : decode cX8_leave 86 = .ok (.iload 5, 2) := by decide +kernel
theorem dX8_leave_88 : decode cX8_leave 88 = .ok (.iadd, 1) := by decide +kernel
theorem dX8_leave_89 : decode cX8_leave 89 = .ok (.iaload, 1) := by decide +kernel
theorem dX8_leave_90 : decode cX8_leave 90 = .ok (.iload 6, 2) := by decide +kernel
theorem dX8_leave_92 : decode cX8_leave 92 = .ok (.iadd, 1) := by decide +kernel
theorem dX8_leave_93 : decode cX8_leave 93 = .ok (.istore 8, 2) := by decide +kernel
theorem dX8_leave_95 : decode cX8_leave 95 = .ok (.aload 7, 2) := by decide +kernel
theorem dX8_leave_97 : decode cX8_leave 97 = .ok (.iload 8, 2) := by decide +kernel
theorem dX8_leave_99 : decode cX8_leave 99 = .ok (.invokevirtual 112, 3) := by decide +kernel
theorem dX8_leave_102 : decode cX8_leave 102 = .ok (.istore 6, 2) := by decide +kernel
theorem dX8_leave_104 : decode cX8_leave 104 = .ok (.aload_n 0, 1) := by decide +kernel
theorem dX8_leave_105 : decode cX8_leave 105 = .ok (.getfield 35, 3) := by decide +kernel
theorem dX8_leave_108 : decode cX8_leave 108 = .ok (.iload_n 1, 1) := by decide +kernel
theorem dX8_leave_109 : decode cX8_leave 109 = .ok (.iconst 5, 1) := by decide +kernel
theorem dX8_leave_110 : decode cX8_leave 110 = .ok (.imul, 1) := by decide +kernel
theorem dX8_leave_111 : decode cX8_leave 111 = .ok (.iload 5, 2) := by decide +kernel
theorem dX8_leave_113 : decode cX8_leave 113 = .ok (.iadd, 1) := by decide +kernel
theorem dX8_leave_114 : decode cX8_leave 114 = .ok (.iload 8, 2) := by decide +kernel
theorem dX8_leave_116 : decode cX8_leave 116 = .ok (.iload 6, 2) := by decide +kernel
theorem dX8_leave_118 : decode cX8_leave 118 = .ok (.isub, 1) := by decide +kernel
theorem dX8_leave_119 : decode cX8_leave 119 = .ok (.iastore, 1) := by decide +kernel
theorem dX8_leave_16 : decode cX8_leave 16 = .ok (.iload 5, 2) := by decide +kernel
theorem dX8_leave_18 : decode cX8_leave 18 = .ok (.iconst 5, 1) := by decide +kernel
theorem dX8_leave_19 : decode cX8_leave 19 = .ok (.if_icmp .ge 126, 3) := by decide +kernel
theorem dX8_leave_145 : decode cX8_leave 145 = .ok (.return_, 1) := by decide +kernel
theorem dX8_leave_22 : decode cX8_leave 22 = .ok (.aload_n 0, 1) := by decide +kernel
theorem dX8_leave_23 : decode cX8_leave 23 = .ok (.getfield 32, 3) := by decide +kernel
theorem dX8_leave_26 : decode cX8_leave 26 = .ok (.iload 4, 2) := by decide +kernel
theorem dX8_leave_28 : decode cX8_leave 28 = .ok (.iload 5, 2) := by decide +kernel
theorem dX8_leave_30 : decode cX8_leave 30 = .ok (.iadd, 1) := by decide +kernel
theorem dX8_leave_31 : decode cX8_leave 31 = .ok (.iaload, 1) := by decide +kernel
theorem dX8_leave_32 : decode cX8_leave 32 = .ok (.istore 6, 2) := by decide +kernel
theorem dX8_leave_34 : decode cX8_leave 34 = .ok (.aload_n 0, 1) := by decide +kernel
theorem dX8_leave_35 : decode cX8_leave 35 = .ok (.getfield 32, 3) := by decide +kernel
theorem dX8_leave_38 : decode cX8_leave 38 = .ok (.iload 4, 2) := by decide +kernel
theorem dX8_leave_40 : decode cX8_leave 40 = .ok (.iload 5, 2) := by decide +kernel
theorem dX8_leave_42 : decode cX8_leave 42 = .ok (.iadd, 1) := by decide +kernel
theorem dX8_leave_43 : decode cX8_leave 43 = .ok (.iconst 0, 1) := by decide +kernel
theorem dX8_leave_44 : decode cX8_leave 44 = .ok (.iastore, 1) := by decide +kernel
theorem dX8_leave_45 : decode cX8_leave 45 = .ok (.iload 5, 2) := by decide +kernel
theorem dX8_leave_47 : decode cX8_leave 47 = .ok (.ifCond .le 19, 3) := by decide +kernel
theorem dX8_leave_50 : decode cX8_leave 50 = .ok (.iload 6, 2) := by decide +kernel
theorem dX8_leave_52 : decode cX8_leave 52 = .ok (.aload_n 0, 1) := by decide +kernel
theorem dX8_leave_53 : decode cX8_leave 53 = .ok (.iload 5, 2) := by decide +kernel
theorem dX8_leave_55 : decode cX8_leave 55 = .ok (.iconst 1, 1) := by decide +kernel
theorem dX8_leave_56 : decode cX8_leave 56 = .ok (.isub, 1) := by decide +kernel
theorem dX8_leave_57 : decode cX8_leave 57 = .ok (.iload 6, 2) := by decide +kernel
theorem dX8_leave_59 : decode cX8_leave 59 = .ok (.iload_n 3, 1) := by decide +kernel
theorem dX8_leave_60 : decode cX8_leave 60 = .ok (.invokevirtual 106, 3) := by decide +kernel
theorem dX8_leave_63 : decode cX8_leave 63 = .ok (.isub, 1) := by decide +kernel
theorem dX8_leave_64 : decode cX8_leave 64 = .ok (.istore 6, 2) := by decide +kernel
theorem dX8_leave_0 : decode cX8_leave 0 = .ok (.aload_n 2, 1) := by decide +kernel
theorem dX8_leave_1 : decode cX8_leave 1 = .ok (.invokevirtual 96, 3) := by decide +kernel
theorem dX8_leave_4 : decode cX8_leave 4 = .ok (.istore_n 3, 1) := by decide +kernel
theorem dX8_leave_5 : decode cX8_leave 5 = .ok (.aload_n 0, 1) := by decide +kernel
theorem dX8_leave_6 : decode cX8_leave 6 = .ok (.iload_n 1, 1) := by decide +kernel
theorem dX8_leave_7 : decode cX8_leave 7 = .ok (.iload_n 3, 1) := by decide +kernel
theorem dX8_leave_8 : decode cX8_leave 8 = .ok (.invokevirtual 102, 3) := by decide +kernel
theorem dX8_leave_11 : decode cX8_leave 11 = .ok (.istore 4, 2) := by decide +kernel
theorem dX8_leave_13 : decode cX8_leave 13 = .ok (.iconst 0, 1) := by decide +kernel
theorem dX8_leave_14 : decode cX8_leave 14 = .ok (.istore 5, 2) := by decide +kernel
set_option maxHeartbeats 4000000 in
set_option maxRecDepth 100000 in
theorem S_X8_leave_1 {P : mh_E → Prop} {N d : Nat} {lv : List (Option Value)} {rest : List Value} {h : mh_H} {b : Nat} {q : (Int32 × mh_H)} {r : Option Value} {h' : mh_H} (hd : 3 ≤ d) (hW : (rest.map fun v => v.category).sum ≤ 8) (e : V_Way_takes N h b = some q) (k : mh_go P d mX8_leave 4 lv (.int q.1 :: rest) q.2 r h') : mh_go P d mX8_leave 1 lv (.ref b :: rest) h r h' := by
  unfold V_Way_takes at e
  rcases mh_or e with ⟨⟨hb, hk⟩, e⟩ | ⟨-, e⟩
  · exact st_invV (pc := 1) (ci := 9) (vs := []) dX8_leave_1 okX9_takes (by decide) hk hb wd_521 wd_436 wd_437 pdX9_takes rfl rfl rfl rfl (Nat.le_trans (by decide) hd) hW (T_X9_takes (Nat.le_refl _) e) rfl k
  rcases mh_or e with ⟨⟨hb, hk⟩, e⟩ | ⟨-, e⟩
  · exact st_invU (pc := 1) (ci := 0) (owner := "HoleWater$Way") (x := ⟨"HoleWater$Way", "takes", "()I"⟩) (vs := []) dX8_leave_1 okX7_takes (by decide) hk hb wd_521 wd_438 wd_436 wd_450 wd_440 wd_439 ⟨by decide, by decide⟩ pdX7_takes rfl rfl rfl rfl (Nat.le_trans (by decide) hd) hW (T_X7_takes (Nat.le_refl _) e) rfl k
  rcases mh_or e with ⟨⟨hb, hk⟩, e⟩ | ⟨-, e⟩
  · exact st_invU (pc := 1) (ci := 2) (owner := "HoleWater$Way") (x := ⟨"HoleWater$Way", "takes", "()I"⟩) (vs := []) dX8_leave_1 okX2_takes (by decide) hk hb wd_521 wd_438 wd_436 wd_450 wd_444 wd_443 ⟨by decide, by decide⟩ pdX2_takes rfl rfl rfl rfl (Nat.le_trans (by decide) hd) hW (T_X2_takes (Nat.le_refl _) e) rfl k
  rcases mh_or e with ⟨⟨hb, hk⟩, e⟩ | ⟨-, e⟩
  · exact st_invU (pc := 1) (ci := 3) (owner := "HoleWater$Way") (x := ⟨"HoleWater$Way", "takes", "()I"⟩) (vs := []) dX8_leave_1 okX2_takes (by decide) hk hb wd_521 wd_438 wd_436 wd_450 wd_444 wd_447 ⟨by decide, by decide⟩ pdX2_takes rfl rfl rfl rfl (Nat.le_trans (by decide) hd) hW (T_X2_takes (Nat.le_refl _) e) rfl k
  rcases mh_or e with ⟨⟨hb, hk⟩, e⟩ | ⟨-, e⟩
  · exact st_invV (pc := 1) (ci := 4) (vs := []) dX8_leave_1 okX9_takes (by decide) hk hb wd_521 wd_436 wd_448 pdX9_takes rfl rfl rfl rfl (Nat.le_trans (by decide) hd) hW (T_X9_takes (Nat.le_refl _) e) rfl k
  rcases mh_or e with ⟨⟨hb, hk⟩, e⟩ | ⟨-, e⟩
  · exact st_invU (pc := 1) (ci := 7) (owner := "HoleWater$Way") (x := ⟨"HoleWater$Way", "takes", "()I"⟩) (vs := []) dX8_leave_1 okX7_takes (by decide) hk hb wd_521 wd_438 wd_436 wd_450 wd_440 wd_449 ⟨by decide, by decide⟩ pdX7_takes rfl rfl rfl rfl (Nat.le_trans (by decide) hd) hW (T_X7_takes (Nat.le_refl _) e) rfl k
  cases e
def D_X8_leave_120 (N : Nat) (k16 : mh_H → Nat → Int32 → Nat → Int32 → Int32 → Int32 → Option mh_H) (h : mh_H) (l0 : Nat) (l1 : Int32) (l2 : Nat) (l3 : Int32) (l4 : Int32) (l5 : Int32) (l6 : Int32) : Option mh_H :=
  (gR h 8 l0 5).bind fun v1 =>
  (gW h l2 1).bind fun v2 =>
  (aI h v1 ((v2 * (5 : Int32)) + l5)).bind fun v3 =>
  (uI h v1 ((v2 * (5 : Int32)) + l5) (v3 + l6)).bind fun h4 =>
  k16 h4 l0 l1 l2 l3 l4 (l5 + Int32.ofInt (1))
set_option maxHeartbeats 4000000 in
set_option maxRecDepth 100000 in
theorem T_X8_leave_120 {P : mh_E → Prop} {N d : Nat} (hd : 3 ≤ d) {z : mh_H} {k16 : mh_H → Nat → Int32 → Nat → Int32 → Int32 → Int32 → Option mh_H} (hk16 : ∀ (h : mh_H) (l0 : Nat) (l1 : Int32) (l2 : Nat) (l3 : Int32) (l4 : Int32) (l5 : Int32), k16 h l0 l1 l2 l3 l4 l5 = some z → mh_go P d mX8_leave 16 [some (.ref l0), some (.int l1), some (.ref l2), some (.int l3), some (.int l4), some (.int l5), none, none, none] [] h none z) {h : mh_H} {l0 : Nat} {l1 : Int32} {l2 : Nat} {l3 : Int32} {l4 : Int32} {l5 : Int32} {l6 : Int32} (hq : D_X8_leave_120 N k16 h l0 l1 l2 l3 l4 l5 l6 = some z) : mh_go P d mX8_leave 120 [some (.ref l0), some (.int l1), some (.ref l2), some (.int l3), some (.int l4), some (.int l5), some (.int l6), none, none] [] h none z := by
  unfold D_X8_leave_120 at hq
  refine st_aload_n (pc := 120) dX8_leave_120 rfl ?_
  refine bd_getr (pc := 121) hq dX8_leave_121 fl_8_29_8 rfl (fun v1 hq => ?_)
  refine st_aload_n (pc := 124) dX8_leave_124 rfl ?_
  refine bd_getw (pc := 125) hq dX8_leave_125 flw_8_116 (by decide) (fun v2 hq => ?_)
  refine st_iconst (pc := 128) (v := (5 : Int32)) dX8_leave_128 rfl ?_
  refine st_imul (pc := 129) dX8_leave_129 ?_
  refine st_iload (pc := 130) dX8_leave_130 rfl ?_
  refine st_iadd (pc := 132) dX8_leave_132 ?_
  refine st_dup2 (pc := 133) dX8_leave_133 rfl rfl ?_
  refine bd_iald (pc := 134) hq dX8_leave_134 (fun v3 hq => ?_)
  refine st_iload (pc := 135) dX8_leave_135 rfl ?_
  refine st_iadd (pc := 137) dX8_leave_137 ?_
  refine bd_iast (pc := 138) hq dX8_leave_138 (fun h4 hq => ?_)
  refine st_iinc (pc := 139) (lv' := [some (.ref l0), some (.int l1), some (.ref l2), some (.int l3), some (.int l4), some (.int (l5 + Int32.ofInt (1))), some (.int l6), none, none]) dX8_leave_139 rfl rfl (by decide) rfl ?_
  refine st_goto (pc := 142) (tgt := 16) dX8_leave_142 (by decide) ?_
  refine st_lesS (lv' := [some (.ref l0), some (.int l1), some (.ref l2), some (.int l3), some (.int l4), some (.int (l5 + Int32.ofInt (1))), none, none, none]) ⟨Or.inr rfl, Or.inr rfl, Or.inr rfl, Or.inr rfl, Or.inr rfl, Or.inr rfl, Or.inl rfl, Or.inr rfl, Or.inr rfl, trivial⟩ ?_
  exact hk16 _ _ _ _ _ _ _ hq
def D_X8_leave_66 (N : Nat) (k16 : mh_H → Nat → Int32 → Nat → Int32 → Int32 → Int32 → Option mh_H) (h : mh_H) (l0 : Nat) (l1 : Int32) (l2 : Nat) (l3 : Int32) (l4 : Int32) (l5 : Int32) (l6 : Int32) : Option mh_H :=
  (iK h l2 4).bind fun v1 =>
  if v1 = 0 then (D_X8_leave_120 N k16 h l0 l1 l2 l3 l4 l5 l6)
  else (kO h 4 l2 <|
  (gR h 8 l0 7).bind fun v2 =>
  (aI h v2 ((l1 * (5 : Int32)) + l5)).bind fun v3 =>
  kO h 4 l2 <|
  (D_X4_lets N h l2 (v3 + l6)).bind fun q4 =>
  (gR q4.2 8 l0 7).bind fun v5 =>
  (uI q4.2 v5 ((l1 * (5 : Int32)) + l5) ((v3 + l6) - q4.1)).bind fun h6 =>
  D_X8_leave_120 N k16 h6 l0 l1 l2 l3 l4 l5 q4.1)
set_option maxHeartbeats 4000000 in
set_option maxRecDepth 100000 in
theorem T_X8_leave_66 {P : mh_E → Prop} {N d : Nat} (hd : 3 ≤ d) {z : mh_H} {k16 : mh_H → Nat → Int32 → Nat → Int32 → Int32 → Int32 → Option mh_H} (hk16 : ∀ (h : mh_H) (l0 : Nat) (l1 : Int32) (l2 : Nat) (l3 : Int32) (l4 : Int32) (l5 : Int32), k16 h l0 l1 l2 l3 l4 l5 = some z → mh_go P d mX8_leave 16 [some (.ref l0), some (.int l1), some (.ref l2), some (.int l3), some (.int l4), some (.int l5), none, none, none] [] h none z) {h : mh_H} {l0 : Nat} {l1 : Int32} {l2 : Nat} {l3 : Int32} {l4 : Int32} {l5 : Int32} {l6 : Int32} (hq : D_X8_leave_66 N k16 h l0 l1 l2 l3 l4 l5 l6 = some z) : mh_go P d mX8_leave 66 [some (.ref l0), some (.int l1), some (.ref l2), some (.int l3), some (.int l4), some (.int l5), some (.int l6), none, none] [] h none z := by
  unfold D_X8_leave_66 at hq
  refine st_aload_n (pc := 66) dX8_leave_66 rfl ?_
  refine bd_inst (pc := 67) hq dX8_leave_67 wd_533 mh_instY4 mh_instN4 (fun v1 hq => ?_)
  refine bd_if_eq (pc := 70) (tgt := 120) hq dX8_leave_70 (by decide) (fun _ hq => ?_) (fun _ hq => ?_)
  ·
    exact T_X8_leave_120 hd hk16 hq
  ·
    refine st_aload_n (pc := 73) dX8_leave_73 rfl ?_
    refine bd_cast (pc := 74) hq dX8_leave_74 (by decide) wd_533 (fun hq => ?_)
    refine st_astore (pc := 77) (lv' := [some (.ref l0), some (.int l1), some (.ref l2), some (.int l3), some (.int l4), some (.int l5), some (.int l6), some (.ref l2), none]) dX8_leave_77 rfl (by decide) rfl ?_
    refine st_aload_n (pc := 79) dX8_leave_79 rfl ?_
    refine bd_getr (pc := 80) hq dX8_leave_80 fl_8_35_8 rfl (fun v2 hq => ?_)
    refine st_iload_n (pc := 83) dX8_leave_83 rfl ?_
    refine st_iconst (pc := 84) (v := (5 : Int32)) dX8_leave_84 rfl ?_
    refine st_imul (pc := 85) dX8_leave_85 ?_
    refine st_iload (pc := 86) dX8_leave_86 rfl ?_
    refine st_iadd (pc := 88) dX8_leave_88 ?_
    refine bd_iald (pc := 89) hq dX8_leave_89 (fun v3 hq => ?_)
    refine st_iload (pc := 90) dX8_leave_90 rfl ?_
    refine st_iadd (pc := 92) dX8_leave_92 ?_
    refine st_istore (pc := 93) (lv' := [some (.ref l0), some (.int l1), some (.ref l2), some (.int l3), some (.int l4), some (.int l5), some (.int l6), some (.ref l2), some (.int (v3 + l6))]) dX8_leave_93 rfl (by decide) rfl ?_
    refine st_aload (pc := 95) dX8_leave_95 rfl ?_
    refine st_iload (pc := 97) dX8_leave_97 rfl ?_
    obtain ⟨⟨hbq4, hkq4⟩, hq⟩ := mh_oi hq
    obtain ⟨q4, e4, hq⟩ := mh_ob hq
    refine st_invV (pc := 99) (ci := 4) (vs := [.int (v3 + l6)]) (rest := []) (st2 := [.int q4.1]) dX8_leave_99 okX4_lets (by decide) hkq4 hbq4 wd_534 wd_535 wd_536 pdX4_lets rfl rfl rfl rfl (Nat.le_trans (by decide) hd) (Nat.le_of_ble_eq_true rfl) (T_X4_lets (Nat.le_refl _) e4) rfl ?_
    refine st_istore (pc := 102) (lv' := [some (.ref l0), some (.int l1), some (.ref l2), some (.int l3), some (.int l4), some (.int l5), some (.int q4.1), some (.ref l2), some (.int (v3 + l6))]) dX8_leave_102 rfl (by decide) rfl ?_
    refine st_aload_n (pc := 104) dX8_leave_104 rfl ?_
    refine bd_getr (pc := 105) hq dX8_leave_105 fl_8_35_8 rfl (fun v5 hq => ?_)
    refine st_iload_n (pc := 108) dX8_leave_108 rfl ?_
    refine st_iconst (pc := 109) (v := (5 : Int32)) dX8_leave_109 rfl ?_
    refine st_imul (pc := 110) dX8_leave_110 ?_
    refine st_iload (pc := 111) dX8_leave_111 rfl ?_
    refine st_iadd (pc := 113) dX8_leave_113 ?_
    refine st_iload (pc := 114) dX8_leave_114 rfl ?_
    refine st_iload (pc := 116) dX8_leave_116 rfl ?_
    refine st_isub (pc := 118) dX8_leave_118 ?_
    refine bd_iast (pc := 119) hq dX8_leave_119 (fun h6 hq => ?_)
    refine st_lesS (lv' := [some (.ref l0), some (.int l1), some (.ref l2), some (.int l3), some (.int l4), some (.int l5), some (.int q4.1), none, none]) ⟨Or.inr rfl, Or.inr rfl, Or.inr rfl, Or.inr rfl, Or.inr rfl, Or.inr rfl, Or.inr rfl, Or.inl rfl, Or.inl rfl, trivial⟩ ?_
    exact T_X8_leave_120 hd hk16 hq
def D_X8_leave_16 (N : Nat) : Nat → mh_H → Nat → Int32 → Nat → Int32 → Int32 → Int32 → Option mh_H
  | 0, _, _, _, _, _, _, _ => none
  | F + 1, h, l0, l1, l2, l3, l4, l5 =>
    if (5 : Int32) ≤ l5 then (some h)
    else ((gR h 8 l0 6).bind fun v1 =>
    (aI h v1 (l4 + l5)).bind fun v2 =>
    (gR h 8 l0 6).bind fun v3 =>
    (uI h v3 (l4 + l5) (0 : Int32)).bind fun h4 =>
    if l5 ≤ 0 then (D_X8_leave_66 N (D_X8_leave_16 N F) h4 l0 l1 l2 l3 l4 l5 v2)
    else (kO h4 8 l0 <|
    (D_X8_fadeAway N h4 l0 (l5 - (1 : Int32)) v2 l3).bind fun q5 =>
    D_X8_leave_66 N (D_X8_leave_16 N F) q5.2 l0 l1 l2 l3 l4 l5 (v2 - q5.1)))
set_option maxHeartbeats 4000000 in
set_option maxRecDepth 100000 in
theorem T_X8_leave_16 {P : mh_E → Prop} {N d : Nat} (hd : 3 ≤ d) {z : mh_H} : ∀ (F : Nat) (h : mh_H) (l0 : Nat) (l1 : Int32) (l2 : Nat) (l3 : Int32) (l4 : Int32) (l5 : Int32), D_X8_leave_16 N F h l0 l1 l2 l3 l4 l5 = some z → mh_go P d mX8_leave 16 [some (.ref l0), some (.int l1), some (.ref l2), some (.int l3), some (.int l4), some (.int l5), none, none, none] [] h none z := by
  intro F
  induction F with
  | zero => intro h l0 l1 l2 l3 l4 l5 hq; rw [D_X8_leave_16] at hq; cases hq
  | succ F ih =>
    intro h l0 l1 l2 l3 l4 l5 hq
    rw [D_X8_leave_16] at hq
    refine st_iload (pc := 16) dX8_leave_16 rfl ?_
    refine st_iconst (pc := 18) (v := (5 : Int32)) dX8_leave_18 rfl ?_
    refine bd_icmp_ge (pc := 19) (tgt := 145) hq dX8_leave_19 (by decide) (fun _ hq => ?_) (fun _ hq => ?_)
    ·
      exact bd_vret (pc := 145) hq dX8_leave_145 rfl
    ·
      refine st_aload_n (pc := 22) dX8_leave_22 rfl ?_
      refine bd_getr (pc := 23) hq dX8_leave_23 fl_8_32_8 rfl (fun v1 hq => ?_)
      refine st_iload (pc := 26) dX8_leave_26 rfl ?_
      refine st_iload (pc := 28) dX8_leave_28 rfl ?_
      refine st_iadd (pc := 30) dX8_leave_30 ?_
      refine bd_iald (pc := 31) hq dX8_leave_31 (fun v2 hq => ?_)
      refine st_istore (pc := 32) (lv' := [some (.ref l0), some (.int l1), some (.ref l2), some (.int l3), some (.int l4), some (.int l5), some (.int v2), none, none]) dX8_leave_32 rfl (by decide) rfl ?_
      refine st_aload_n (pc := 34) dX8_leave_34 rfl ?_
      refine bd_getr (pc := 35) hq dX8_leave_35 fl_8_32_8 rfl (fun v3 hq => ?_)
      refine st_iload (pc := 38) dX8_leave_38 rfl ?_
      refine st_iload (pc := 40) dX8_leave_40 rfl ?_
      refine st_iadd (pc := 42) dX8_leave_42 ?_
      refine st_iconst (pc := 43) (v := (0 : Int32)) dX8_leave_43 rfl ?_
      refine bd_iast (pc := 44) hq dX8_leave_44 (fun h4 hq => ?_)
      refine st_iload (pc := 45) dX8_leave_45 rfl ?_
      refine bd_if_le (pc := 47) (tgt := 66) hq dX8_leave_47 (by decide) (fun _ hq => ?_) (fun _ hq => ?_)
      ·
        exact T_X8_leave_66 hd ih hq
      ·
        refine st_iload (pc := 50) dX8_leave_50 rfl ?_
        refine st_aload_n (pc := 52) dX8_leave_52 rfl ?_
        refine st_iload (pc := 53) dX8_leave_53 rfl ?_
        refine st_iconst (pc := 55) (v := (1 : Int32)) dX8_leave_55 rfl ?_
        refine st_isub (pc := 56) dX8_leave_56 ?_
        refine st_iload (pc := 57) dX8_leave_57 rfl ?_
        refine st_iload_n (pc := 59) dX8_leave_59 rfl ?_
        obtain ⟨⟨hbq5, hkq5⟩, hq⟩ := mh_oi hq
        obtain ⟨q5, e5, hq⟩ := mh_ob hq
        refine st_invV (pc := 60) (ci := 8) (vs := [.int (l5 - (1 : Int32)), .int v2, .int l3]) (rest := [.int v2]) (st2 := [.int q5.1, .int v2]) dX8_leave_60 okX8_fadeAway (by decide) hkq5 hbq5 wd_526 wd_528 wp_4 pdX8_fadeAway rfl rfl rfl rfl (Nat.le_trans (by decide) hd) (Nat.le_of_ble_eq_true rfl) (T_X8_fadeAway (Nat.le_refl _) e5) rfl ?_
        refine st_isub (pc := 63) dX8_leave_63 ?_
        refine st_istore (pc := 64) (lv' := [some (.ref l0), some (.int l1), some (.ref l2), some (.int l3), some (.int l4), some (.int l5), some (.int (v2 - q5.1)), none, none]) dX8_leave_64 rfl (by decide) rfl ?_
        exact T_X8_leave_66 hd ih hq
def D_X8_leave (N : Nat) (h : mh_H) (l0 : Nat) (l1 : Int32) (l2 : Nat) : Option mh_H :=
  (V_Way_takes N h l2).bind fun q1 =>
  kO q1.2 8 l0 <|
  (D_X8_slotNow N q1.2 l0 l1 q1.1).bind fun q2 =>
  D_X8_leave_16 N N q2.2 l0 l1 l2 q1.1 q2.1 (0 : Int32)
set_option maxHeartbeats 4000000 in
set_option maxRecDepth 100000 in
theorem T_X8_leave {P : mh_E → Prop} {N d : Nat} (hd : 3 ≤ d) {z : mh_H} {h : mh_H} {l0 : Nat} {l1 : Int32} {l2 : Nat} (hq : D_X8_leave N h l0 l1 l2 = some z) : mh_go P d mX8_leave 0 [some (.ref l0), some (.int l1), some (.ref l2), none, none, none, none, none, none] [] h none z := by
  unfold D_X8_leave at hq
  refine st_aload_n (pc := 0) dX8_leave_0 rfl ?_
  obtain ⟨q1, e1, hq⟩ := mh_ob hq
  refine S_X8_leave_1 (rest := []) hd (Nat.le_of_ble_eq_true rfl) e1 ?_
  refine st_istore_n (pc := 4) (lv' := [some (.ref l0), some (.int l1), some (.ref l2), some (.int q1.1), none, none, none, none, none]) dX8_leave_4 rfl (by decide) rfl ?_
  refine st_aload_n (pc := 5) dX8_leave_5 rfl ?_
  refine st_iload_n (pc := 6) dX8_leave_6 rfl ?_
  refine st_iload_n (pc := 7) dX8_leave_7 rfl ?_
  obtain ⟨⟨hbq2, hkq2⟩, hq⟩ := mh_oi hq
  obtain ⟨q2, e2, hq⟩ := mh_ob hq
  refine st_invV (pc := 8) (ci := 8) (vs := [.int l1, .int q1.1]) (rest := []) (st2 := [.int q2.1]) dX8_leave_8 okX8_slotNow (by decide) hkq2 hbq2 wd_522 wd_524 wp_3 pdX8_slotNow rfl rfl rfl rfl (Nat.le_trans (by decide) hd) (Nat.le_of_ble_eq_true rfl) (T_X8_slotNow (Nat.le_refl _) e2) rfl ?_
  refine st_istore (pc := 11) (lv' := [some (.ref l0), some (.int l1), some (.ref l2), some (.int q1.1), some (.int q2.1), none, none, none, none]) dX8_leave_11 rfl (by decide) rfl ?_
  refine st_iconst (pc := 13) (v := (0 : Int32)) dX8_leave_13 rfl ?_
  refine st_istore (pc := 14) (lv' := [some (.ref l0), some (.int l1), some (.ref l2), some (.int q1.1), some (.int q2.1), some (.int (0 : Int32)), none, none, none]) dX8_leave_14 rfl (by decide) rfl ?_
  exact T_X8_leave_16 hd N _ _ _ _ _ _ _ hq
-- HoleWater$Sieve.keeps(I)I
theorem dX7_keeps_0 : decode cX7_keeps 0 = .ok (.iload_n 1, 1) := by decide +kernel
theorem dX7_keeps_1 : decode cX7_keeps 1 = .ok (.aload_n 0, 1) := by decide +kernel
theorem dX7_keeps_2 : decode cX7_keeps 2 = .ok (.getfield 11, 3) := by decide +kernel
theorem dX7_keeps_5 : decode cX7_keeps 5 = .ok (.invokestatic 17, 3) := by decide +kernel
theorem dX7_keeps_8 : decode cX7_keeps 8 = .ok (.ireturn, 1) := by decide +kernel
def D_X7_keeps (N : Nat) (h : mh_H) (l0 : Nat) (l1 : Int32) : Option (Int32 × mh_H) :=
  (gW h l0 3).bind fun v1 =>
  (D_X11_by N h l1 v1).bind fun q2 =>
  some (q2.1, q2.2)
set_option maxHeartbeats 4000000 in
set_option maxRecDepth 100000 in
theorem T_X7_keeps {P : mh_E → Prop} {N d : Nat} (hd : 2 ≤ d) {z : (Int32 × mh_H)} {h : mh_H} {l0 : Nat} {l1 : Int32} (hq : D_X7_keeps N h l0 l1 = some z) : mh_go P d mX7_keeps 0 [some (.ref l0), some (.int l1)] [] h (some (.int z.1)) z.2 := by
  unfold D_X7_keeps at hq
  refine st_iload_n (pc := 0) dX7_keeps_0 rfl ?_
  refine st_aload_n (pc := 1) dX7_keeps_1 rfl ?_
  refine bd_getw (pc := 2) hq dX7_keeps_2 flw_7_11 (by decide) (fun v1 hq => ?_)
  obtain ⟨q2, e2, hq⟩ := mh_ob hq
  refine st_invSN (pc := 5) (Y := mX11_by) (vs := [.int l1, .int v1]) (rest := []) (st2 := [.int q2.1]) dX7_keeps_5 okX11_by wn_602 wd_539 pdX11_by rfl rfl rfl rfl (Nat.le_trans (by decide) hd) (Nat.le_of_ble_eq_true rfl) (T_X11_by (Nat.le_refl _) e2) rfl ?_
  exact bd_iret (pc := 8) hq dX7_keeps_8 rfl
-- HoleWater$Way.keeps(I)I
theorem dX9_keeps_0 : decode cX9_keeps 0 = .ok (.iconst 0, 1) := by decide +kernel
theorem dX9_keeps_1 : decode cX9_keeps 1 = .ok (.ireturn, 1) := by decide +kernel
def D_X9_keeps (N : Nat) (h : mh_H) (l0 : Nat) (l1 : Int32) : Option (Int32 × mh_H) :=
  some ((0 : Int32), h)
set_option maxHeartbeats 4000000 in
set_option maxRecDepth 100000 in
theorem T_X9_keeps {P : mh_E → Prop} {N d : Nat} (hd : 1 ≤ d) {z : (Int32 × mh_H)} {h : mh_H} {l0 : Nat} {l1 : Int32} (hq : D_X9_keeps N h l0 l1 = some z) : mh_go P d mX9_keeps 0 [some (.ref l0), some (.int l1)] [] h (some (.int z.1)) z.2 := by
  unfold D_X9_keeps at hq
  refine st_iconst (pc := 0) (v := (0 : Int32)) dX9_keeps_0 rfl ?_
  exact bd_iret (pc := 1) hq dX9_keeps_1 rfl
-- HoleWater$Water.enter(ILHoleWater$Way;II)V
theorem dX8_enter_41 : decode cX8_enter 41 = .ok (.aload_n 2, 1) := by decide +kernel
theorem dX8_enter_42 : decode cX8_enter 42 = .ok (.instanceof 156, 3) := by decide +kernel
theorem dX8_enter_45 : decode cX8_enter 45 = .ok (.ifCond .ne 27, 3) := by decide +kernel
theorem dX8_enter_48 : decode cX8_enter 48 = .ok (.aload_n 0, 1) := by decide +kernel
theorem dX8_enter_49 : decode cX8_enter 49 = .ok (.getfield 32, 3) := by decide +kernel
theorem dX8_enter_52 : decode cX8_enter 52 = .ok (.aload_n 0, 1) := by decide +kernel
theorem dX8_enter_53 : decode cX8_enter 53 = .ok (.iload_n 1, 1) := by decide +kernel
theorem dX8_enter_54 : decode cX8_enter 54 = .ok (.aload_n 2, 1) := by decide +kernel
theorem dX8_enter_55 : decode cX8_enter 55 = .ok (.invokevirtual 96, 3) := by decide +kernel
theorem dX8_enter_58 : decode cX8_enter 58 = .ok (.invokevirtual 102, 3) := by decide +kernel
theorem dX8_enter_61 : decode cX8_enter 61 = .ok (.iload_n 3, 1) := by decide +kernel
theorem dX8_enter_62 : decode cX8_enter 62 = .ok (.iadd, 1) := by decide +kernel
theorem dX8_enter_63 : decode cX8_enter 63 = .ok (.dup2, 1) := by decide +kernel
theorem dX8_enter_64 : decode cX8_enter 64 = .ok (.iaload, 1) := by decide +kernel
theorem dX8_enter_65 : decode cX8_enter 65 = .ok (.iload 5, 2) := by decide +kernel
theorem dX8_enter_67 : decode cX8_enter 67 = .ok (.iadd, 1) := by decide +kernel
theorem dX8_enter_68 : decode cX8_enter 68 = .ok (.iastore, 1) := by decide +kernel
theorem dX8_enter_69 : decode cX8_enter 69 = .ok (.goto 39, 3) := by decide +kernel
theorem dX8_enter_108 : decode cX8_enter 108 = .ok (.return_, 1) := by decide +kernel
theorem dX8_enter_72 : decode cX8_enter 72 = .ok (.iload_n 3, 1) := by decide +kernel
theorem dX8_enter_73 : decode cX8_enter 73 = .ok (.ifCond .le 24, 3) := by decide +kernel
theorem dX8_enter_97 : decode cX8_enter 97 = .ok (.aload_n 0, 1) := by decide +kernel
theorem dX8_enter_98 : decode cX8_enter 98 = .ok (.dup, 1) := by decide +kernel
theorem dX8_enter_99 : decode cX8_enter 99 = .ok (.getfield 19, 3) := by decide +kernel
theorem dX8_enter_102 : decode cX8_enter 102 = .ok (.iload 5, 2) := by decide +kernel
theorem dX8_enter_104 : decode cX8_enter 104 = .ok (.iadd, 1) := by decide +kernel
theorem dX8_enter_105 : decode cX8_enter 105 = .ok (.putfield 19, 3) := by decide +kernel
theorem dX8_enter_76 : decode cX8_enter 76 = .ok (.aload_n 0, 1) := by decide +kernel
theorem dX8_enter_77 : decode cX8_enter 77 = .ok (.getfield 26, 3) := by decide +kernel
theorem dX8_enter_80 : decode cX8_enter 80 = .ok (.iload_n 3, 1) := by decide +kernel
theorem dX8_enter_81 : decode cX8_enter 81 = .ok (.iconst 1, 1) := by decide +kernel
theorem dX8_enter_82 : decode cX8_enter 82 = .ok (.isub, 1) := by decide +kernel
theorem dX8_enter_83 : decode cX8_enter 83 = .ok (.bipush 7, 2) := by decide +kernel
theorem dX8_enter_85 : decode cX8_enter 85 = .ok (.imul, 1) := by decide +kernel
theorem dX8_enter_86 : decode cX8_enter 86 = .ok (.iconst 4, 1) := by decide +kernel
theorem dX8_enter_87 : decode cX8_enter 87 = .ok (.iadd, 1) := by decide +kernel
theorem dX8_enter_88 : decode cX8_enter 88 = .ok (.dup2, 1) := by decide +kernel
theorem dX8_enter_89 : decode cX8_enter 89 = .ok (.iaload, 1) := by decide +kernel
theorem dX8_enter_90 : decode cX8_enter 90 = .ok (.iload 5, 2) := by decide +kernel
theorem dX8_enter_92 : decode cX8_enter 92 = .ok (.iadd, 1) := by decide +kernel
theorem dX8_enter_93 : decode cX8_enter 93 = .ok (.iastore, 1) := by decide +kernel
theorem dX8_enter_94 : decode cX8_enter 94 = .ok (.goto 14, 3) := by decide +kernel
theorem dX8_enter_0 : decode cX8_enter 0 = .ok (.iload 4, 2) := by decide +kernel
theorem dX8_enter_2 : decode cX8_enter 2 = .ok (.istore 5, 2) := by decide +kernel
theorem dX8_enter_4 : decode cX8_enter 4 = .ok (.iload_n 3, 1) := by decide +kernel
theorem dX8_enter_5 : decode cX8_enter 5 = .ok (.ifCond .le 36, 3) := by decide +kernel
theorem dX8_enter_8 : decode cX8_enter 8 = .ok (.aload_n 2, 1) := by decide +kernel
theorem dX8_enter_9 : decode cX8_enter 9 = .ok (.iload 4, 2) := by decide +kernel
theorem dX8_enter_11 : decode cX8_enter 11 = .ok (.invokevirtual 153, 3) := by decide +kernel
theorem dX8_enter_14 : decode cX8_enter 14 = .ok (.istore 6, 2) := by decide +kernel
theorem dX8_enter_16 : decode cX8_enter 16 = .ok (.aload_n 0, 1) := by decide +kernel
theorem dX8_enter_17 : decode cX8_enter 17 = .ok (.getfield 26, 3) := by decide +kernel
theorem dX8_enter_20 : decode cX8_enter 20 = .ok (.iload_n 3, 1) := by decide +kernel
theorem dX8_enter_21 : decode cX8_enter 21 = .ok (.iconst 1, 1) := by decide +kernel
theorem dX8_enter_22 : decode cX8_enter 22 = .ok (.isub, 1) := by decide +kernel
theorem dX8_enter_23 : decode cX8_enter 23 = .ok (.bipush 7, 2) := by decide +kernel
theorem dX8_enter_25 : decode cX8_enter 25 = .ok (.imul, 1) := by decide +kernel
theorem dX8_enter_26 : decode cX8_enter 26 = .ok (.iconst 2, 1) := by decide +kernel
theorem dX8_enter_27 : decode cX8_enter 27 = .ok (.iadd, 1) := by decide +kernel
theorem dX8_enter_28 : decode cX8_enter 28 = .ok (.dup2, 1) := by decide +kernel
theorem dX8_enter_29 : decode cX8_enter 29 = .ok (.iaload, 1) := by decide +kernel
theorem dX8_enter_30 : decode cX8_enter 30 = .ok (.iload 6, 2) := by decide +kernel
theorem dX8_enter_32 : decode cX8_enter 32 = .ok (.iadd, 1) := by decide +kernel
theorem dX8_enter_33 : decode cX8_enter 33 = .ok (.iastore, 1) := by decide +kernel
theorem dX8_enter_34 : decode cX8_enter 34 = .ok (.iload 5, 2) := by decide +kernel
theorem dX8_enter_36 : decode cX8_enter 36 = .ok (.iload 6, 2) := by decide +kernel
theorem dX8_enter_38 : decode cX8_enter 38 = .ok (.isub, 1) := by decide +kernel
theorem dX8_enter_39 : decode cX8_enter 39 = .ok (.istore 5, 2) := by decide +kernel
set_option maxHeartbeats 4000000 in
set_option maxRecDepth 100000 in
theorem S_X8_enter_55 {P : mh_E → Prop} {N d : Nat} {lv : List (Option Value)} {rest : List Value} {h : mh_H} {b : Nat} {q : (Int32 × mh_H)} {r : Option Value} {h' : mh_H} (hd : 3 ≤ d) (hW : (rest.map fun v => v.category).sum ≤ 8) (e : V_Way_takes N h b = some q) (k : mh_go P d mX8_enter 58 lv (.int q.1 :: rest) q.2 r h') : mh_go P d mX8_enter 55 lv (.ref b :: rest) h r h' := by
  unfold V_Way_takes at e
  rcases mh_or e with ⟨⟨hb, hk⟩, e⟩ | ⟨-, e⟩
  · exact st_invV (pc := 55) (ci := 9) (vs := []) dX8_enter_55 okX9_takes (by decide) hk hb wd_521 wd_436 wd_437 pdX9_takes rfl rfl rfl rfl (Nat.le_trans (by decide) hd) hW (T_X9_takes (Nat.le_refl _) e) rfl k
  rcases mh_or e with ⟨⟨hb, hk⟩, e⟩ | ⟨-, e⟩
  · exact st_invU (pc := 55) (ci := 0) (owner := "HoleWater$Way") (x := ⟨"HoleWater$Way", "takes", "()I"⟩) (vs := []) dX8_enter_55 okX7_takes (by decide) hk hb wd_521 wd_438 wd_436 wd_450 wd_440 wd_439 ⟨by decide, by decide⟩ pdX7_takes rfl rfl rfl rfl (Nat.le_trans (by decide) hd) hW (T_X7_takes (Nat.le_refl _) e) rfl k
  rcases mh_or e with ⟨⟨hb, hk⟩, e⟩ | ⟨-, e⟩
  · exact st_invU (pc := 55) (ci := 2) (owner := "HoleWater$Way") (x := ⟨"HoleWater$Way", "takes", "()I"⟩) (vs := []) dX8_enter_55 okX2_takes (by decide) hk hb wd_521 wd_438 wd_436 wd_450 wd_444 wd_443 ⟨by decide, by decide⟩ pdX2_takes rfl rfl rfl rfl (Nat.le_trans (by decide) hd) hW (T_X2_takes (Nat.le_refl _) e) rfl k
  rcases mh_or e with ⟨⟨hb, hk⟩, e⟩ | ⟨-, e⟩
  · exact st_invU (pc := 55) (ci := 3) (owner := "HoleWater$Way") (x := ⟨"HoleWater$Way", "takes", "()I"⟩) (vs := []) dX8_enter_55 okX2_takes (by decide) hk hb wd_521 wd_438 wd_436 wd_450 wd_444 wd_447 ⟨by decide, by decide⟩ pdX2_takes rfl rfl rfl rfl (Nat.le_trans (by decide) hd) hW (T_X2_takes (Nat.le_refl _) e) rfl k
  rcases mh_or e with ⟨⟨hb, hk⟩, e⟩ | ⟨-, e⟩
  · exact st_invV (pc := 55) (ci := 4) (vs := []) dX8_enter_55 okX9_takes (by decide) hk hb wd_521 wd_436 wd_448 pdX9_takes rfl rfl rfl rfl (Nat.le_trans (by decide) hd) hW (T_X9_takes (Nat.le_refl _) e) rfl k
  rcases mh_or e with ⟨⟨hb, hk⟩, e⟩ | ⟨-, e⟩
  · exact st_invU (pc := 55) (ci := 7) (owner := "HoleWater$Way") (x := ⟨"HoleWater$Way", "takes", "()I"⟩) (vs := []) dX8_enter_55 okX7_takes (by decide) hk hb wd_521 wd_438 wd_436 wd_450 wd_440 wd_449 ⟨by decide, by decide⟩ pdX7_takes rfl rfl rfl rfl (Nat.le_trans (by decide) hd) hW (T_X7_takes (Nat.le_refl _) e) rfl k
  cases e
def V_Way_keeps (N : Nat) (h : mh_H) (b : Nat) (a1 : Int32) : Option (Int32 × mh_H) :=
  if b < mh_n h ∧ mh_k h b = 11 then D_X9_keeps N h b a1
  else if b < mh_n h ∧ mh_k h b = 2 then D_X7_keeps N h b a1
  else if b < mh_n h ∧ mh_k h b = 4 then D_X9_keeps N h b a1
  else if b < mh_n h ∧ mh_k h b = 5 then D_X9_keeps N h b a1
  else if b < mh_n h ∧ mh_k h b = 6 then D_X9_keeps N h b a1
  else if b < mh_n h ∧ mh_k h b = 9 then D_X7_keeps N h b a1
  else none
set_option maxHeartbeats 4000000 in
set_option maxRecDepth 100000 in
theorem S_X8_enter_11 {P : mh_E → Prop} {N d : Nat} {lv : List (Option Value)} {rest : List Value} {h : mh_H} {b : Nat} {a1 : Int32} {q : (Int32 × mh_H)} {r : Option Value} {h' : mh_H} (hd : 3 ≤ d) (hW : (rest.map fun v => v.category).sum ≤ 8) (e : V_Way_keeps N h b a1 = some q) (k : mh_go P d mX8_enter 14 lv (.int q.1 :: rest) q.2 r h') : mh_go P d mX8_enter 11 lv (.int a1 :: .ref b :: rest) h r h' := by
  unfold V_Way_keeps at e
  rcases mh_or e with ⟨⟨hb, hk⟩, e⟩ | ⟨-, e⟩
  · exact st_invV (pc := 11) (ci := 9) (vs := [.int a1]) dX8_enter_11 okX9_keeps (by decide) hk hb wd_595 wd_596 wd_597 pdX9_keeps rfl rfl rfl rfl (Nat.le_trans (by decide) hd) hW (T_X9_keeps (Nat.le_refl _) e) rfl k
  rcases mh_or e with ⟨⟨hb, hk⟩, e⟩ | ⟨-, e⟩
  · exact st_invU (pc := 11) (ci := 0) (owner := "HoleWater$Way") (x := ⟨"HoleWater$Way", "keeps", "(I)I"⟩) (vs := [.int a1]) dX8_enter_11 okX7_keeps (by decide) hk hb wd_595 wd_598 wd_596 wd_607 wd_600 wd_599 ⟨by decide, by decide⟩ pdX7_keeps rfl rfl rfl rfl (Nat.le_trans (by decide) hd) hW (T_X7_keeps (Nat.le_refl _) e) rfl k
  rcases mh_or e with ⟨⟨hb, hk⟩, e⟩ | ⟨-, e⟩
  · exact st_invV (pc := 11) (ci := 2) (vs := [.int a1]) dX8_enter_11 okX9_keeps (by decide) hk hb wd_595 wd_596 wd_603 pdX9_keeps rfl rfl rfl rfl (Nat.le_trans (by decide) hd) hW (T_X9_keeps (Nat.le_refl _) e) rfl k
  rcases mh_or e with ⟨⟨hb, hk⟩, e⟩ | ⟨-, e⟩
  · exact st_invV (pc := 11) (ci := 3) (vs := [.int a1]) dX8_enter_11 okX9_keeps (by decide) hk hb wd_595 wd_596 wd_604 pdX9_keeps rfl rfl rfl rfl (Nat.le_trans (by decide) hd) hW (T_X9_keeps (Nat.le_refl _) e) rfl k
  rcases mh_or e with ⟨⟨hb, hk⟩, e⟩ | ⟨-, e⟩
  · exact st_invV (pc := 11) (ci := 4) (vs := [.int a1]) dX8_enter_11 okX9_keeps (by decide) hk hb wd_595 wd_596 wd_605 pdX9_keeps rfl rfl rfl rfl (Nat.le_trans (by decide) hd) hW (T_X9_keeps (Nat.le_refl _) e) rfl k
  rcases mh_or e with ⟨⟨hb, hk⟩, e⟩ | ⟨-, e⟩
  · exact st_invU (pc := 11) (ci := 7) (owner := "HoleWater$Way") (x := ⟨"HoleWater$Way", "keeps", "(I)I"⟩) (vs := [.int a1]) dX8_enter_11 okX7_keeps (by decide) hk hb wd_595 wd_598 wd_596 wd_607 wd_600 wd_606 ⟨by decide, by decide⟩ pdX7_keeps rfl rfl rfl rfl (Nat.le_trans (by decide) hd) hW (T_X7_keeps (Nat.le_refl _) e) rfl k
  cases e
def D_X8_enter_41 (N : Nat) (h : mh_H) (l0 : Nat) (l1 : Int32) (l2 : Nat) (l3 : Int32) (l5 : Int32) : Option mh_H :=
  (iK h l2 0).bind fun v1 =>
  if v1 = 0 then ((gR h 8 l0 6).bind fun v2 =>
  (V_Way_takes N h l2).bind fun q3 =>
  kO q3.2 8 l0 <|
  (D_X8_slotNow N q3.2 l0 l1 q3.1).bind fun q4 =>
  (aI q4.2 v2 (q4.1 + l3)).bind fun v5 =>
  (uI q4.2 v2 (q4.1 + l3) (v5 + l5)).bind fun h6 =>
  some h6)
  else (if l3 ≤ 0 then ((gI h 8 l0 2).bind fun v2 =>
  (pI h 8 l0 2 (v2 + l5)).bind fun h3 =>
  some h3)
  else ((gR h 8 l0 4).bind fun v2 =>
  (aI h v2 (((l3 - (1 : Int32)) * (7 : Int32)) + (4 : Int32))).bind fun v3 =>
  (uI h v2 (((l3 - (1 : Int32)) * (7 : Int32)) + (4 : Int32)) (v3 + l5)).bind fun h4 =>
  some h4))
set_option maxHeartbeats 4000000 in
set_option maxRecDepth 100000 in
theorem T_X8_enter_41 {P : mh_E → Prop} {N d : Nat} (hd : 3 ≤ d) {z : mh_H} {h : mh_H} {l0 : Nat} {l1 : Int32} {l2 : Nat} {l3 : Int32} {l5 : Int32} (hq : D_X8_enter_41 N h l0 l1 l2 l3 l5 = some z) : mh_go P d mX8_enter 41 [some (.ref l0), some (.int l1), some (.ref l2), some (.int l3), none, some (.int l5), none] [] h none z := by
  unfold D_X8_enter_41 at hq
  refine st_aload_n (pc := 41) dX8_enter_41 rfl ?_
  refine bd_inst (pc := 42) hq dX8_enter_42 wd_608 mh_instY0 mh_instN0 (fun v1 hq => ?_)
  refine bd_if_ne (pc := 45) (tgt := 72) hq dX8_enter_45 (by decide) (fun _ hq => ?_) (fun _ hq => ?_)
  ·
    refine st_aload_n (pc := 48) dX8_enter_48 rfl ?_
    refine bd_getr (pc := 49) hq dX8_enter_49 fl_8_32_8 rfl (fun v2 hq => ?_)
    refine st_aload_n (pc := 52) dX8_enter_52 rfl ?_
    refine st_iload_n (pc := 53) dX8_enter_53 rfl ?_
    refine st_aload_n (pc := 54) dX8_enter_54 rfl ?_
    obtain ⟨q3, e3, hq⟩ := mh_ob hq
    refine S_X8_enter_55 (rest := [.int l1, .ref l0, .ref v2]) hd (Nat.le_of_ble_eq_true rfl) e3 ?_
    obtain ⟨⟨hbq4, hkq4⟩, hq⟩ := mh_oi hq
    obtain ⟨q4, e4, hq⟩ := mh_ob hq
    refine st_invV (pc := 58) (ci := 8) (vs := [.int l1, .int q3.1]) (rest := [.ref v2]) (st2 := [.int q4.1, .ref v2]) dX8_enter_58 okX8_slotNow (by decide) hkq4 hbq4 wd_522 wd_524 wp_3 pdX8_slotNow rfl rfl rfl rfl (Nat.le_trans (by decide) hd) (Nat.le_of_ble_eq_true rfl) (T_X8_slotNow (Nat.le_refl _) e4) rfl ?_
    refine st_iload_n (pc := 61) dX8_enter_61 rfl ?_
    refine st_iadd (pc := 62) dX8_enter_62 ?_
    refine st_dup2 (pc := 63) dX8_enter_63 rfl rfl ?_
    refine bd_iald (pc := 64) hq dX8_enter_64 (fun v5 hq => ?_)
    refine st_iload (pc := 65) dX8_enter_65 rfl ?_
    refine st_iadd (pc := 67) dX8_enter_67 ?_
    refine bd_iast (pc := 68) hq dX8_enter_68 (fun h6 hq => ?_)
    refine st_goto (pc := 69) (tgt := 108) dX8_enter_69 (by decide) ?_
    exact bd_vret (pc := 108) hq dX8_enter_108 rfl
  ·
    refine st_iload_n (pc := 72) dX8_enter_72 rfl ?_
    refine bd_if_le (pc := 73) (tgt := 97) hq dX8_enter_73 (by decide) (fun _ hq => ?_) (fun _ hq => ?_)
    ·
      refine st_aload_n (pc := 97) dX8_enter_97 rfl ?_
      refine st_dup (pc := 98) dX8_enter_98 rfl ?_
      refine bd_geti (pc := 99) hq dX8_enter_99 fl_8_19_8 rfl (fun v2 hq => ?_)
      refine st_iload (pc := 102) dX8_enter_102 rfl ?_
      refine st_iadd (pc := 104) dX8_enter_104 ?_
      refine bd_puti (pc := 105) hq dX8_enter_105 fl_8_19_8 (Or.inl rfl) rfl (fun h3 hq => ?_)
      exact bd_vret (pc := 108) hq dX8_enter_108 rfl
    ·
      refine st_aload_n (pc := 76) dX8_enter_76 rfl ?_
      refine bd_getr (pc := 77) hq dX8_enter_77 fl_8_26_8 rfl (fun v2 hq => ?_)
      refine st_iload_n (pc := 80) dX8_enter_80 rfl ?_
      refine st_iconst (pc := 81) (v := (1 : Int32)) dX8_enter_81 rfl ?_
      refine st_isub (pc := 82) dX8_enter_82 ?_
      refine st_bipush (pc := 83) (v := (7 : Int32)) dX8_enter_83 (by decide) ?_
      refine st_imul (pc := 85) dX8_enter_85 ?_
      refine st_iconst (pc := 86) (v := (4 : Int32)) dX8_enter_86 rfl ?_
      refine st_iadd (pc := 87) dX8_enter_87 ?_
      refine st_dup2 (pc := 88) dX8_enter_88 rfl rfl ?_
      refine bd_iald (pc := 89) hq dX8_enter_89 (fun v3 hq => ?_)
      refine st_iload (pc := 90) dX8_enter_90 rfl ?_
      refine st_iadd (pc := 92) dX8_enter_92 ?_
      refine bd_iast (pc := 93) hq dX8_enter_93 (fun h4 hq => ?_)
      refine st_goto (pc := 94) (tgt := 108) dX8_enter_94 (by decide) ?_
      exact bd_vret (pc := 108) hq dX8_enter_108 rfl
def D_X8_enter (N : Nat) (h : mh_H) (l0 : Nat) (l1 : Int32) (l2 : Nat) (l3 : Int32) (l4 : Int32) : Option mh_H :=
  if l3 ≤ 0 then (D_X8_enter_41 N h l0 l1 l2 l3 l4)
  else ((V_Way_keeps N h l2 l4).bind fun q1 =>
  (gR q1.2 8 l0 4).bind fun v2 =>
  (aI q1.2 v2 (((l3 - (1 : Int32)) * (7 : Int32)) + (2 : Int32))).bind fun v3 =>
  (uI q1.2 v2 (((l3 - (1 : Int32)) * (7 : Int32)) + (2 : Int32)) (v3 + q1.1)).bind fun h4 =>
  D_X8_enter_41 N h4 l0 l1 l2 l3 (l4 - q1.1))
set_option maxHeartbeats 4000000 in
set_option maxRecDepth 100000 in
theorem T_X8_enter {P : mh_E → Prop} {N d : Nat} (hd : 3 ≤ d) {z : mh_H} {h : mh_H} {l0 : Nat} {l1 : Int32} {l2 : Nat} {l3 : Int32} {l4 : Int32} (hq : D_X8_enter N h l0 l1 l2 l3 l4 = some z) : mh_go P d mX8_enter 0 [some (.ref l0), some (.int l1), some (.ref l2), some (.int l3), some (.int l4), none, none] [] h none z := by
  unfold D_X8_enter at hq
  refine st_iload (pc := 0) dX8_enter_0 rfl ?_
  refine st_istore (pc := 2) (lv' := [some (.ref l0), some (.int l1), some (.ref l2), some (.int l3), some (.int l4), some (.int l4), none]) dX8_enter_2 rfl (by decide) rfl ?_
  refine st_iload_n (pc := 4) dX8_enter_4 rfl ?_
  refine bd_if_le (pc := 5) (tgt := 41) hq dX8_enter_5 (by decide) (fun _ hq => ?_) (fun _ hq => ?_)
  ·
    refine st_lesS (lv' := [some (.ref l0), some (.int l1), some (.ref l2), some (.int l3), none, some (.int l4), none]) ⟨Or.inr rfl, Or.inr rfl, Or.inr rfl, Or.inr rfl, Or.inl rfl, Or.inr rfl, Or.inr rfl, trivial⟩ ?_
    exact T_X8_enter_41 hd hq
  ·
    refine st_aload_n (pc := 8) dX8_enter_8 rfl ?_
    refine st_iload (pc := 9) dX8_enter_9 rfl ?_
    obtain ⟨q1, e1, hq⟩ := mh_ob hq
    refine S_X8_enter_11 (rest := []) hd (Nat.le_of_ble_eq_true rfl) e1 ?_
    refine st_istore (pc := 14) (lv' := [some (.ref l0), some (.int l1), some (.ref l2), some (.int l3), some (.int l4), some (.int l4), some (.int q1.1)]) dX8_enter_14 rfl (by decide) rfl ?_
    refine st_aload_n (pc := 16) dX8_enter_16 rfl ?_
    refine bd_getr (pc := 17) hq dX8_enter_17 fl_8_26_8 rfl (fun v2 hq => ?_)
    refine st_iload_n (pc := 20) dX8_enter_20 rfl ?_
    refine st_iconst (pc := 21) (v := (1 : Int32)) dX8_enter_21 rfl ?_
    refine st_isub (pc := 22) dX8_enter_22 ?_
    refine st_bipush (pc := 23) (v := (7 : Int32)) dX8_enter_23 (by decide) ?_
    refine st_imul (pc := 25) dX8_enter_25 ?_
    refine st_iconst (pc := 26) (v := (2 : Int32)) dX8_enter_26 rfl ?_
    refine st_iadd (pc := 27) dX8_enter_27 ?_
    refine st_dup2 (pc := 28) dX8_enter_28 rfl rfl ?_
    refine bd_iald (pc := 29) hq dX8_enter_29 (fun v3 hq => ?_)
    refine st_iload (pc := 30) dX8_enter_30 rfl ?_
    refine st_iadd (pc := 32) dX8_enter_32 ?_
    refine bd_iast (pc := 33) hq dX8_enter_33 (fun h4 hq => ?_)
    refine st_iload (pc := 34) dX8_enter_34 rfl ?_
    refine st_iload (pc := 36) dX8_enter_36 rfl ?_
    refine st_isub (pc := 38) dX8_enter_38 ?_
    refine st_istore (pc := 39) (lv' := [some (.ref l0), some (.int l1), some (.ref l2), some (.int l3), some (.int l4), some (.int (l4 - q1.1)), some (.int q1.1)]) dX8_enter_39 rfl (by decide) rfl ?_
    refine st_lesS (lv' := [some (.ref l0), some (.int l1), some (.ref l2), some (.int l3), none, some (.int (l4 - q1.1)), none]) ⟨Or.inr rfl, Or.inr rfl, Or.inr rfl, Or.inr rfl, Or.inl rfl, Or.inr rfl, Or.inl rfl, trivial⟩ ?_
    exact T_X8_enter_41 hd hq
-- HoleWater$Water.part(III)I
theorem dX8_part_0 : decode cX8_part 0 = .ok (.iload_n 2, 1) := by decide +kernel
theorem dX8_part_1 : decode cX8_part 1 = .ok (.ifCond .gt 7, 3) := by decide +kernel
theorem dX8_part_8 : decode cX8_part 8 = .ok (.iload_n 0, 1) := by decide +kernel
theorem dX8_part_9 : decode cX8_part 9 = .ok (.i2l, 1) := by decide +kernel
theorem dX8_part_10 : decode cX8_part 10 = .ok (.iload_n 1, 1) := by decide +kernel
theorem dX8_part_11 : decode cX8_part 11 = .ok (.i2l, 1) := by decide +kernel
theorem dX8_part_12 : decode cX8_part 12 = .ok (.lmul, 1) := by decide +kernel
theorem dX8_part_13 : decode cX8_part 13 = .ok (.iload_n 2, 1) := by decide +kernel
theorem dX8_part_14 : decode cX8_part 14 = .ok (.i2l, 1) := by decide +kernel
theorem dX8_part_15 : decode cX8_part 15 = .ok (.ldiv, 1) := by decide +kernel
theorem dX8_part_16 : decode cX8_part 16 = .ok (.l2i, 1) := by decide +kernel
theorem dX8_part_17 : decode cX8_part 17 = .ok (.ireturn, 1) := by decide +kernel
theorem dX8_part_4 : decode cX8_part 4 = .ok (.iconst 0, 1) := by decide +kernel
theorem dX8_part_5 : decode cX8_part 5 = .ok (.goto 12, 3) := by decide +kernel
def D_X8_part (N : Nat) (h : mh_H) (l0 : Int32) (l1 : Int32) (l2 : Int32) : Option (Int32 × mh_H) :=
  if 0 < l2 then (dL l2.toInt64 <|
  some (((l0.toInt64 * l1.toInt64) / l2.toInt64).toInt32, h))
  else (some ((0 : Int32), h))
set_option maxHeartbeats 4000000 in
set_option maxRecDepth 100000 in
theorem T_X8_part {P : mh_E → Prop} {N d : Nat} (hd : 1 ≤ d) {z : (Int32 × mh_H)} {h : mh_H} {l0 : Int32} {l1 : Int32} {l2 : Int32} (hq : D_X8_part N h l0 l1 l2 = some z) : mh_go P d mX8_part 0 [some (.int l0), some (.int l1), some (.int l2)] [] h (some (.int z.1)) z.2 := by
  unfold D_X8_part at hq
  refine st_iload_n (pc := 0) dX8_part_0 rfl ?_
  refine bd_if_gt (pc := 1) (tgt := 8) hq dX8_part_1 (by decide) (fun _ hq => ?_) (fun _ hq => ?_)
  ·
    refine st_iload_n (pc := 8) dX8_part_8 rfl ?_
    refine st_i2l (pc := 9) dX8_part_9 ?_
    refine st_iload_n (pc := 10) dX8_part_10 rfl ?_
    refine st_i2l (pc := 11) dX8_part_11 ?_
    refine st_lmul (pc := 12) dX8_part_12 ?_
    refine st_iload_n (pc := 13) dX8_part_13 rfl ?_
    refine st_i2l (pc := 14) dX8_part_14 ?_
    refine bd_ldiv (pc := 15) hq dX8_part_15 (fun hq => ?_)
    refine st_l2i (pc := 16) dX8_part_16 ?_
    exact bd_iret (pc := 17) hq dX8_part_17 rfl
  ·
    refine st_iconst (pc := 4) (v := (0 : Int32)) dX8_part_4 rfl ?_
    refine st_goto (pc := 5) (tgt := 17) dX8_part_5 (by decide) ?_
    exact bd_iret (pc := 17) hq dX8_part_17 rfl
-- HoleWater$Water.sendGrains(IIIILHoleWater$World;)V
theorem dX8_sendGrains_90 : decode cX8_sendGrains 90 = .ok (.iinc 8 1, 3) := by decide +kernel
theorem dX8_sendGrains_93 : decode cX8_sendGrains 93 = .ok (.goto (-74), 3) := by decide +kernel
theorem dX8_sendGrains_125 : decode cX8_sendGrains 125 = .ok (.istore 8, 2) := by decide +kernel
theorem dX8_sendGrains_127 : decode cX8_sendGrains 127 = .ok (.aload_n 0, 1) := by decide +kernel
theorem dX8_sendGrains_128 : decode cX8_sendGrains 128 = .ok (.iload 4, 2) := by decide +kernel
theorem dX8_sendGrains_130 : decode cX8_sendGrains 130 = .ok (.aload 5, 2) := by decide +kernel
theorem dX8_sendGrains_132 : decode cX8_sendGrains 132 = .ok (.getfield 65, 3) := by decide +kernel
theorem dX8_sendGrains_135 : decode cX8_sendGrains 135 = .ok (.iload 4, 2) := by decide +kernel
theorem dX8_sendGrains_137 : decode cX8_sendGrains 137 = .ok (.aaload, 1) := by decide +kernel
theorem dX8_sendGrains_138 : decode cX8_sendGrains 138 = .ok (.iload_n 2, 1) := by decide +kernel
theorem dX8_sendGrains_139 : decode cX8_sendGrains 139 = .ok (.iload 8, 2) := by decide +kernel
theorem dX8_sendGrains_141 : decode cX8_sendGrains 141 = .ok (.invokevirtual 131, 3) := by decide +kernel
theorem dX8_sendGrains_144 : decode cX8_sendGrains 144 = .ok (.aload_n 0, 1) := by decide +kernel
theorem dX8_sendGrains_145 : decode cX8_sendGrains 145 = .ok (.getfield 29, 3) := by decide +kernel
theorem dX8_sendGrains_148 : decode cX8_sendGrains 148 = .ok (.iload_n 1, 1) := by decide +kernel
theorem dX8_sendGrains_149 : decode cX8_sendGrains 149 = .ok (.iconst 5, 1) := by decide +kernel
theorem dX8_sendGrains_150 : decode cX8_sendGrains 150 = .ok (.imul, 1) := by decide +kernel
theorem dX8_sendGrains_151 : decode cX8_sendGrains 151 = .ok (.iload_n 2, 1) := by decide +kernel
theorem dX8_sendGrains_152 : decode cX8_sendGrains 152 = .ok (.iadd, 1) := by decide +kernel
theorem dX8_sendGrains_153 : decode cX8_sendGrains 153 = .ok (.iload 7, 2) := by decide +kernel
theorem dX8_sendGrains_155 : decode cX8_sendGrains 155 = .ok (.iload 8, 2) := by decide +kernel
theorem dX8_sendGrains_157 : decode cX8_sendGrains 157 = .ok (.isub, 1) := by decide +kernel
theorem dX8_sendGrains_158 : decode cX8_sendGrains 158 = .ok (.iastore, 1) := by decide +kernel
theorem dX8_sendGrains_159 : decode cX8_sendGrains 159 = .ok (.return_, 1) := by decide +kernel
theorem dX8_sendGrains_19 : decode cX8_sendGrains 19 = .ok (.iload 8, 2) := by decide +kernel
theorem dX8_sendGrains_21 : decode cX8_sendGrains 21 = .ok (.aload 5, 2) := by decide +kernel
theorem dX8_sendGrains_23 : decode cX8_sendGrains 23 = .ok (.getfield 60, 3) := by decide +kernel
theorem dX8_sendGrains_26 : decode cX8_sendGrains 26 = .ok (.if_icmp .ge 70, 3) := by decide +kernel
theorem dX8_sendGrains_96 : decode cX8_sendGrains 96 = .ok (.aload_n 0, 1) := by decide +kernel
theorem dX8_sendGrains_97 : decode cX8_sendGrains 97 = .ok (.getfield 29, 3) := by decide +kernel
theorem dX8_sendGrains_100 : decode cX8_sendGrains 100 = .ok (.iload_n 1, 1) := by decide +kernel
theorem dX8_sendGrains_101 : decode cX8_sendGrains 101 = .ok (.iconst 5, 1) := by decide +kernel
theorem dX8_sendGrains_102 : decode cX8_sendGrains 102 = .ok (.imul, 1) := by decide +kernel
theorem dX8_sendGrains_103 : decode cX8_sendGrains 103 = .ok (.iaload, 1) := by decide +kernel
theorem dX8_sendGrains_104 : decode cX8_sendGrains 104 = .ok (.ifCond .le 19, 3) := by decide +kernel
theorem dX8_sendGrains_123 : decode cX8_sendGrains 123 = .ok (.iload 7, 2) := by decide +kernel
theorem dX8_sendGrains_107 : decode cX8_sendGrains 107 = .ok (.iload 6, 2) := by decide +kernel
theorem dX8_sendGrains_109 : decode cX8_sendGrains 109 = .ok (.aload_n 0, 1) := by decide +kernel
theorem dX8_sendGrains_110 : decode cX8_sendGrains 110 = .ok (.getfield 47, 3) := by decide +kernel
theorem dX8_sendGrains_113 : decode cX8_sendGrains 113 = .ok (.iload 4, 2) := by decide +kernel
theorem dX8_sendGrains_115 : decode cX8_sendGrains 115 = .ok (.iaload, 1) := by decide +kernel
theorem dX8_sendGrains_116 : decode cX8_sendGrains 116 = .ok (.iload_n 3, 1) := by decide +kernel
theorem dX8_sendGrains_117 : decode cX8_sendGrains 117 = .ok (.invokestatic 139, 3) := by decide +kernel
theorem dX8_sendGrains_120 : decode cX8_sendGrains 120 = .ok (.goto 5, 3) := by decide +kernel
theorem dX8_sendGrains_29 : decode cX8_sendGrains 29 = .ok (.aload 5, 2) := by decide +kernel
theorem dX8_sendGrains_31 : decode cX8_sendGrains 31 = .ok (.getfield 65, 3) := by decide +kernel
theorem dX8_sendGrains_34 : decode cX8_sendGrains 34 = .ok (.iload 8, 2) := by decide +kernel
theorem dX8_sendGrains_36 : decode cX8_sendGrains 36 = .ok (.aaload, 1) := by decide +kernel
theorem dX8_sendGrains_37 : decode cX8_sendGrains 37 = .ok (.getfield 128, 3) := by decide +kernel
theorem dX8_sendGrains_40 : decode cX8_sendGrains 40 = .ok (.iload_n 1, 1) := by decide +kernel
theorem dX8_sendGrains_41 : decode cX8_sendGrains 41 = .ok (.if_icmp .ne 49, 3) := by decide +kernel
theorem dX8_sendGrains_44 : decode cX8_sendGrains 44 = .ok (.iload 8, 2) := by decide +kernel
theorem dX8_sendGrains_46 : decode cX8_sendGrains 46 = .ok (.iload 4, 2) := by decide +kernel
theorem dX8_sendGrains_48 : decode cX8_sendGrains 48 = .ok (.if_icmp .eq 42, 3) := by decide +kernel
theorem dX8_sendGrains_51 : decode cX8_sendGrains 51 = .ok (.iload 6, 2) := by decide +kernel
theorem dX8_sendGrains_53 : decode cX8_sendGrains 53 = .ok (.aload_n 0, 1) := by decide +kernel
theorem dX8_sendGrains_54 : decode cX8_sendGrains 54 = .ok (.getfield 47, 3) := by decide +kernel
theorem dX8_sendGrains_57 : decode cX8_sendGrains 57 = .ok (.iload 8, 2) := by decide +kernel
theorem dX8_sendGrains_59 : decode cX8_sendGrains 59 = .ok (.iaload, 1) := by decide +kernel
theorem dX8_sendGrains_60 : decode cX8_sendGrains 60 = .ok (.iload_n 3, 1) := by decide +kernel
theorem dX8_sendGrains_61 : decode cX8_sendGrains 61 = .ok (.invokestatic 139, 3) := by decide +kernel
theorem dX8_sendGrains_64 : decode cX8_sendGrains 64 = .ok (.istore 9, 2) := by decide +kernel
theorem dX8_sendGrains_66 : decode cX8_sendGrains 66 = .ok (.aload_n 0, 1) := by decide +kernel
theorem dX8_sendGrains_67 : decode cX8_sendGrains 67 = .ok (.iload 8, 2) := by decide +kernel
theorem dX8_sendGrains_69 : decode cX8_sendGrains 69 = .ok (.aload 5, 2) := by decide +kernel
theorem dX8_sendGrains_71 : decode cX8_sendGrains 71 = .ok (.getfield 65, 3) := by decide +kernel
theorem dX8_sendGrains_74 : decode cX8_sendGrains 74 = .ok (.iload 8, 2) := by decide +kernel
theorem dX8_sendGrains_76 : decode cX8_sendGrains 76 = .ok (.aaload, 1) := by decide +kernel
theorem dX8_sendGrains_77 : decode cX8_sendGrains 77 = .ok (.iload_n 2, 1) := by decide +kernel
theorem dX8_sendGrains_78 : decode cX8_sendGrains 78 = .ok (.iload 9, 2) := by decide +kernel
theorem dX8_sendGrains_80 : decode cX8_sendGrains 80 = .ok (.invokevirtual 131, 3) := by decide +kernel
theorem dX8_sendGrains_83 : decode cX8_sendGrains 83 = .ok (.iload 7, 2) := by decide +kernel
theorem dX8_sendGrains_85 : decode cX8_sendGrains 85 = .ok (.iload 9, 2) := by decide +kernel
theorem dX8_sendGrains_87 : decode cX8_sendGrains 87 = .ok (.isub, 1) := by decide +kernel
theorem dX8_sendGrains_88 : decode cX8_sendGrains 88 = .ok (.istore 7, 2) := by decide +kernel
theorem dX8_sendGrains_0 : decode cX8_sendGrains 0 = .ok (.aload_n 0, 1) := by decide +kernel
theorem dX8_sendGrains_1 : decode cX8_sendGrains 1 = .ok (.getfield 29, 3) := by decide +kernel
theorem dX8_sendGrains_4 : decode cX8_sendGrains 4 = .ok (.iload_n 1, 1) := by decide +kernel
theorem dX8_sendGrains_5 : decode cX8_sendGrains 5 = .ok (.iconst 5, 1) := by decide +kernel
theorem dX8_sendGrains_6 : decode cX8_sendGrains 6 = .ok (.imul, 1) := by decide +kernel
theorem dX8_sendGrains_7 : decode cX8_sendGrains 7 = .ok (.iload_n 2, 1) := by decide +kernel
theorem dX8_sendGrains_8 : decode cX8_sendGrains 8 = .ok (.iadd, 1) := by decide +kernel
theorem dX8_sendGrains_9 : decode cX8_sendGrains 9 = .ok (.iaload, 1) := by decide +kernel
theorem dX8_sendGrains_10 : decode cX8_sendGrains 10 = .ok (.istore 6, 2) := by decide +kernel
theorem dX8_sendGrains_12 : decode cX8_sendGrains 12 = .ok (.iload 6, 2) := by decide +kernel
theorem dX8_sendGrains_14 : decode cX8_sendGrains 14 = .ok (.istore 7, 2) := by decide +kernel
theorem dX8_sendGrains_16 : decode cX8_sendGrains 16 = .ok (.iconst 0, 1) := by decide +kernel
theorem dX8_sendGrains_17 : decode cX8_sendGrains 17 = .ok (.istore 8, 2) := by decide +kernel
def D_X8_sendGrains_90 (N : Nat) (k19 : mh_H → Nat → Int32 → Int32 → Int32 → Int32 → Nat → Int32 → Int32 → Int32 → Option mh_H) (h : mh_H) (l0 : Nat) (l1 : Int32) (l2 : Int32) (l3 : Int32) (l4 : Int32) (l5 : Nat) (l6 : Int32) (l7 : Int32) (l8 : Int32) : Option mh_H :=
  k19 h l0 l1 l2 l3 l4 l5 l6 l7 (l8 + Int32.ofInt (1))
set_option maxHeartbeats 4000000 in
set_option maxRecDepth 100000 in
theorem T_X8_sendGrains_90 {P : mh_E → Prop} {N d : Nat} (hd : 4 ≤ d) {z : mh_H} {k19 : mh_H → Nat → Int32 → Int32 → Int32 → Int32 → Nat → Int32 → Int32 → Int32 → Option mh_H} (hk19 : ∀ (h : mh_H) (l0 : Nat) (l1 : Int32) (l2 : Int32) (l3 : Int32) (l4 : Int32) (l5 : Nat) (l6 : Int32) (l7 : Int32) (l8 : Int32), k19 h l0 l1 l2 l3 l4 l5 l6 l7 l8 = some z → mh_go P d mX8_sendGrains 19 [some (.ref l0), some (.int l1), some (.int l2), some (.int l3), some (.int l4), some (.ref l5), some (.int l6), some (.int l7), some (.int l8), none] [] h none z) {h : mh_H} {l0 : Nat} {l1 : Int32} {l2 : Int32} {l3 : Int32} {l4 : Int32} {l5 : Nat} {l6 : Int32} {l7 : Int32} {l8 : Int32} (hq : D_X8_sendGrains_90 N k19 h l0 l1 l2 l3 l4 l5 l6 l7 l8 = some z) : mh_go P d mX8_sendGrains 90 [some (.ref l0), some (.int l1), some (.int l2), some (.int l3), some (.int l4), some (.ref l5), some (.int l6), some (.int l7), some (.int l8), none] [] h none z := by
  unfold D_X8_sendGrains_90 at hq
  refine st_iinc (pc := 90) (lv' := [some (.ref l0), some (.int l1), some (.int l2), some (.int l3), some (.int l4), some (.ref l5), some (.int l6), some (.int l7), some (.int (l8 + Int32.ofInt (1))), none]) dX8_sendGrains_90 rfl rfl (by decide) rfl ?_
  refine st_goto (pc := 93) (tgt := 19) dX8_sendGrains_93 (by decide) ?_
  exact hk19 _ _ _ _ _ _ _ _ _ _ hq
def D_X8_sendGrains_125 (N : Nat) (h : mh_H) (l0 : Nat) (l1 : Int32) (l2 : Int32) (l4 : Int32) (l5 : Nat) (l7 : Int32) (s0 : Int32) : Option mh_H :=
  (gR h 10 l5 6).bind fun v1 =>
  (aR h v1 l4).bind fun v2 =>
  kO h 8 l0 <|
  (D_X8_enter N h l0 l4 v2 l2 s0).bind fun q3 =>
  (gR q3 8 l0 5).bind fun v4 =>
  (uI q3 v4 ((l1 * (5 : Int32)) + l2) (l7 - s0)).bind fun h5 =>
  some h5
set_option maxHeartbeats 4000000 in
set_option maxRecDepth 100000 in
theorem T_X8_sendGrains_125 {P : mh_E → Prop} {N d : Nat} (hd : 4 ≤ d) {z : mh_H} {h : mh_H} {l0 : Nat} {l1 : Int32} {l2 : Int32} {l4 : Int32} {l5 : Nat} {l7 : Int32} {s0 : Int32} (hq : D_X8_sendGrains_125 N h l0 l1 l2 l4 l5 l7 s0 = some z) : mh_go P d mX8_sendGrains 125 [some (.ref l0), some (.int l1), some (.int l2), none, some (.int l4), some (.ref l5), none, some (.int l7), none, none] [.int s0] h none z := by
  unfold D_X8_sendGrains_125 at hq
  refine st_istore (pc := 125) (lv' := [some (.ref l0), some (.int l1), some (.int l2), none, some (.int l4), some (.ref l5), none, some (.int l7), some (.int s0), none]) dX8_sendGrains_125 rfl (by decide) rfl ?_
  refine st_aload_n (pc := 127) dX8_sendGrains_127 rfl ?_
  refine st_iload (pc := 128) dX8_sendGrains_128 rfl ?_
  refine st_aload (pc := 130) dX8_sendGrains_130 rfl ?_
  refine bd_getr (pc := 132) hq dX8_sendGrains_132 fl_8_65_10 rfl (fun v1 hq => ?_)
  refine st_iload (pc := 135) dX8_sendGrains_135 rfl ?_
  refine bd_aald (pc := 137) hq dX8_sendGrains_137 (fun v2 hq => ?_)
  refine st_iload_n (pc := 138) dX8_sendGrains_138 rfl ?_
  refine st_iload (pc := 139) dX8_sendGrains_139 rfl ?_
  obtain ⟨⟨hbq3, hkq3⟩, hq⟩ := mh_oi hq
  obtain ⟨q3, e3, hq⟩ := mh_ob hq
  refine st_invV (pc := 141) (ci := 8) (vs := [.int l4, .ref v2, .int l2, .int s0]) (rest := []) (st2 := []) dX8_sendGrains_141 okX8_enter (by decide) hkq3 hbq3 wd_591 wd_593 wp_11 pdX8_enter rfl rfl rfl rfl (Nat.le_trans (by decide) hd) (Nat.le_of_ble_eq_true rfl) (T_X8_enter (Nat.le_refl _) e3) rfl ?_
  refine st_aload_n (pc := 144) dX8_sendGrains_144 rfl ?_
  refine bd_getr (pc := 145) hq dX8_sendGrains_145 fl_8_29_8 rfl (fun v4 hq => ?_)
  refine st_iload_n (pc := 148) dX8_sendGrains_148 rfl ?_
  refine st_iconst (pc := 149) (v := (5 : Int32)) dX8_sendGrains_149 rfl ?_
  refine st_imul (pc := 150) dX8_sendGrains_150 ?_
  refine st_iload_n (pc := 151) dX8_sendGrains_151 rfl ?_
  refine st_iadd (pc := 152) dX8_sendGrains_152 ?_
  refine st_iload (pc := 153) dX8_sendGrains_153 rfl ?_
  refine st_iload (pc := 155) dX8_sendGrains_155 rfl ?_
  refine st_isub (pc := 157) dX8_sendGrains_157 ?_
  refine bd_iast (pc := 158) hq dX8_sendGrains_158 (fun h5 hq => ?_)
  exact bd_vret (pc := 159) hq dX8_sendGrains_159 rfl
def D_X8_sendGrains_19 (N : Nat) : Nat → mh_H → Nat → Int32 → Int32 → Int32 → Int32 → Nat → Int32 → Int32 → Int32 → Option mh_H
  | 0, _, _, _, _, _, _, _, _, _, _ => none
  | F + 1, h, l0, l1, l2, l3, l4, l5, l6, l7, l8 =>
    (gI h 10 l5 1).bind fun v1 =>
    if v1 ≤ l8 then ((gR h 8 l0 5).bind fun v2 =>
    (aI h v2 (l1 * (5 : Int32))).bind fun v3 =>
    if v3 ≤ 0 then (D_X8_sendGrains_125 N h l0 l1 l2 l4 l5 l7 l7)
    else ((gR h 8 l0 11).bind fun v4 =>
    (aI h v4 l4).bind fun v5 =>
    (D_X8_part N h l6 v5 l3).bind fun q6 =>
    D_X8_sendGrains_125 N q6.2 l0 l1 l2 l4 l5 l7 q6.1))
    else ((gR h 10 l5 6).bind fun v2 =>
    (aR h v2 l8).bind fun v3 =>
    (gW h v3 0).bind fun v4 =>
    if v4 = l1 then (if l8 = l4 then (D_X8_sendGrains_90 N (D_X8_sendGrains_19 N F) h l0 l1 l2 l3 l4 l5 l6 l7 l8)
    else ((gR h 8 l0 11).bind fun v5 =>
    (aI h v5 l8).bind fun v6 =>
    (D_X8_part N h l6 v6 l3).bind fun q7 =>
    (gR q7.2 10 l5 6).bind fun v8 =>
    (aR q7.2 v8 l8).bind fun v9 =>
    kO q7.2 8 l0 <|
    (D_X8_enter N q7.2 l0 l8 v9 l2 q7.1).bind fun q10 =>
    D_X8_sendGrains_90 N (D_X8_sendGrains_19 N F) q10 l0 l1 l2 l3 l4 l5 l6 (l7 - q7.1) l8))
    else (D_X8_sendGrains_90 N (D_X8_sendGrains_19 N F) h l0 l1 l2 l3 l4 l5 l6 l7 l8))
set_option maxHeartbeats 4000000 in
set_option maxRecDepth 100000 in
theorem T_X8_sendGrains_19 {P : mh_E → Prop} {N d : Nat} (hd : 4 ≤ d) {z : mh_H} : ∀ (F : Nat) (h : mh_H) (l0 : Nat) (l1 : Int32) (l2 : Int32) (l3 : Int32) (l4 : Int32) (l5 : Nat) (l6 : Int32) (l7 : Int32) (l8 : Int32), D_X8_sendGrains_19 N F h l0 l1 l2 l3 l4 l5 l6 l7 l8 = some z → mh_go P d mX8_sendGrains 19 [some (.ref l0), some (.int l1), some (.int l2), some (.int l3), some (.int l4), some (.ref l5), some (.int l6), some (.int l7), some (.int l8), none] [] h none z := by
  intro F
  induction F with
  | zero => intro h l0 l1 l2 l3 l4 l5 l6 l7 l8 hq; rw [D_X8_sendGrains_19] at hq; cases hq
  | succ F ih =>
    intro h l0 l1 l2 l3 l4 l5 l6 l7 l8 hq
    rw [D_X8_sendGrains_19] at hq
    refine st_iload (pc := 19) dX8_sendGrains_19 rfl ?_
    refine st_aload (pc := 21) dX8_sendGrains_21 rfl ?_
    refine bd_geti (pc := 23) hq dX8_sendGrains_23 fl_8_60_10 rfl (fun v1 hq => ?_)
    refine bd_icmp_ge (pc := 26) (tgt := 96) hq dX8_sendGrains_26 (by decide) (fun _ hq => ?_) (fun _ hq => ?_)
    ·
      refine st_aload_n (pc := 96) dX8_sendGrains_96 rfl ?_
      refine bd_getr (pc := 97) hq dX8_sendGrains_97 fl_8_29_8 rfl (fun v2 hq => ?_)
      refine st_iload_n (pc := 100) dX8_sendGrains_100 rfl ?_
      refine st_iconst (pc := 101) (v := (5 : Int32)) dX8_sendGrains_101 rfl ?_
      refine st_imul (pc := 102) dX8_sendGrains_102 ?_
      refine bd_iald (pc := 103) hq dX8_sendGrains_103 (fun v3 hq => ?_)
      refine bd_if_le (pc := 104) (tgt := 123) hq dX8_sendGrains_104 (by decide) (fun _ hq => ?_) (fun _ hq => ?_)
      ·
        refine st_iload (pc := 123) dX8_sendGrains_123 rfl ?_
        refine st_lesS (lv' := [some (.ref l0), some (.int l1), some (.int l2), none, some (.int l4), some (.ref l5), none, some (.int l7), none, none]) ⟨Or.inr rfl, Or.inr rfl, Or.inr rfl, Or.inl rfl, Or.inr rfl, Or.inr rfl, Or.inl rfl, Or.inr rfl, Or.inl rfl, Or.inr rfl, trivial⟩ ?_
        exact T_X8_sendGrains_125 hd hq
      ·
        refine st_iload (pc := 107) dX8_sendGrains_107 rfl ?_
        refine st_aload_n (pc := 109) dX8_sendGrains_109 rfl ?_
        refine bd_getr (pc := 110) hq dX8_sendGrains_110 fl_8_47_8 rfl (fun v4 hq => ?_)
        refine st_iload (pc := 113) dX8_sendGrains_113 rfl ?_
        refine bd_iald (pc := 115) hq dX8_sendGrains_115 (fun v5 hq => ?_)
        refine st_iload_n (pc := 116) dX8_sendGrains_116 rfl ?_
        obtain ⟨q6, e6, hq⟩ := mh_ob hq
        refine st_invS (pc := 117) (Y := mX8_part) (vs := [.int l6, .int v5, .int l3]) (rest := []) (st2 := [.int q6.1]) dX8_sendGrains_117 okX8_part wd_613 wd_614 pdX8_part rfl rfl rfl rfl (Nat.le_trans (by decide) hd) (Nat.le_of_ble_eq_true rfl) (T_X8_part (Nat.le_refl _) e6) rfl ?_
        refine st_goto (pc := 120) (tgt := 125) dX8_sendGrains_120 (by decide) ?_
        refine st_lesS (lv' := [some (.ref l0), some (.int l1), some (.int l2), none, some (.int l4), some (.ref l5), none, some (.int l7), none, none]) ⟨Or.inr rfl, Or.inr rfl, Or.inr rfl, Or.inl rfl, Or.inr rfl, Or.inr rfl, Or.inl rfl, Or.inr rfl, Or.inl rfl, Or.inr rfl, trivial⟩ ?_
        exact T_X8_sendGrains_125 hd hq
    ·
      refine st_aload (pc := 29) dX8_sendGrains_29 rfl ?_
      refine bd_getr (pc := 31) hq dX8_sendGrains_31 fl_8_65_10 rfl (fun v2 hq => ?_)
      refine st_iload (pc := 34) dX8_sendGrains_34 rfl ?_
      refine bd_aald (pc := 36) hq dX8_sendGrains_36 (fun v3 hq => ?_)
      refine bd_getw (pc := 37) hq dX8_sendGrains_37 flw_8_128 (by decide) (fun v4 hq => ?_)
      refine st_iload_n (pc := 40) dX8_sendGrains_40 rfl ?_
      refine bd_icmp_ne (pc := 41) (tgt := 90) hq dX8_sendGrains_41 (by decide) (fun _ hq => ?_) (fun _ hq => ?_)
      ·
        refine st_iload (pc := 44) dX8_sendGrains_44 rfl ?_
        refine st_iload (pc := 46) dX8_sendGrains_46 rfl ?_
        refine bd_icmp_eq (pc := 48) (tgt := 90) hq dX8_sendGrains_48 (by decide) (fun _ hq => ?_) (fun _ hq => ?_)
        ·
          exact T_X8_sendGrains_90 hd ih hq
        ·
          refine st_iload (pc := 51) dX8_sendGrains_51 rfl ?_
          refine st_aload_n (pc := 53) dX8_sendGrains_53 rfl ?_
          refine bd_getr (pc := 54) hq dX8_sendGrains_54 fl_8_47_8 rfl (fun v5 hq => ?_)
          refine st_iload (pc := 57) dX8_sendGrains_57 rfl ?_
          refine bd_iald (pc := 59) hq dX8_sendGrains_59 (fun v6 hq => ?_)
          refine st_iload_n (pc := 60) dX8_sendGrains_60 rfl ?_
          obtain ⟨q7, e7, hq⟩ := mh_ob hq
          refine st_invS (pc := 61) (Y := mX8_part) (vs := [.int l6, .int v6, .int l3]) (rest := []) (st2 := [.int q7.1]) dX8_sendGrains_61 okX8_part wd_613 wd_614 pdX8_part rfl rfl rfl rfl (Nat.le_trans (by decide) hd) (Nat.le_of_ble_eq_true rfl) (T_X8_part (Nat.le_refl _) e7) rfl ?_
          refine st_istore (pc := 64) (lv' := [some (.ref l0), some (.int l1), some (.int l2), some (.int l3), some (.int l4), some (.ref l5), some (.int l6), some (.int l7), some (.int l8), some (.int q7.1)]) dX8_sendGrains_64 rfl (by decide) rfl ?_
          refine st_aload_n (pc := 66) dX8_sendGrains_66 rfl ?_
          refine st_iload (pc := 67) dX8_sendGrains_67 rfl ?_
          refine st_aload (pc := 69) dX8_sendGrains_69 rfl ?_
          refine bd_getr (pc := 71) hq dX8_sendGrains_71 fl_8_65_10 rfl (fun v8 hq => ?_)
          refine st_iload (pc := 74) dX8_sendGrains_74 rfl ?_
          refine bd_aald (pc := 76) hq dX8_sendGrains_76 (fun v9 hq => ?_)
          refine st_iload_n (pc := 77) dX8_sendGrains_77 rfl ?_
          refine st_iload (pc := 78) dX8_sendGrains_78 rfl ?_
          obtain ⟨⟨hbq10, hkq10⟩, hq⟩ := mh_oi hq
          obtain ⟨q10, e10, hq⟩ := mh_ob hq
          refine st_invV (pc := 80) (ci := 8) (vs := [.int l8, .ref v9, .int l2, .int q7.1]) (rest := []) (st2 := []) dX8_sendGrains_80 okX8_enter (by decide) hkq10 hbq10 wd_591 wd_593 wp_11 pdX8_enter rfl rfl rfl rfl (Nat.le_trans (by decide) hd) (Nat.le_of_ble_eq_true rfl) (T_X8_enter (Nat.le_refl _) e10) rfl ?_
          refine st_iload (pc := 83) dX8_sendGrains_83 rfl ?_
          refine st_iload (pc := 85) dX8_sendGrains_85 rfl ?_
          refine st_isub (pc := 87) dX8_sendGrains_87 ?_
          refine st_istore (pc := 88) (lv' := [some (.ref l0), some (.int l1), some (.int l2), some (.int l3), some (.int l4), some (.ref l5), some (.int l6), some (.int (l7 - q7.1)), some (.int l8), some (.int q7.1)]) dX8_sendGrains_88 rfl (by decide) rfl ?_
          refine st_lesS (lv' := [some (.ref l0), some (.int l1), some (.int l2), some (.int l3), some (.int l4), some (.ref l5), some (.int l6), some (.int (l7 - q7.1)), some (.int l8), none]) ⟨Or.inr rfl, Or.inr rfl, Or.inr rfl, Or.inr rfl, Or.inr rfl, Or.inr rfl, Or.inr rfl, Or.inr rfl, Or.inr rfl, Or.inl rfl, trivial⟩ ?_
          exact T_X8_sendGrains_90 hd ih hq
      ·
        exact T_X8_sendGrains_90 hd ih hq
def D_X8_sendGrains (N : Nat) (h : mh_H) (l0 : Nat) (l1 : Int32) (l2 : Int32) (l3 : Int32) (l4 : Int32) (l5 : Nat) : Option mh_H :=
  (gR h 8 l0 5).bind fun v1 =>
  (aI h v1 ((l1 * (5 : Int32)) + l2)).bind fun v2 =>
  D_X8_sendGrains_19 N N h l0 l1 l2 l3 l4 l5 v2 v2 (0 : Int32)
set_option maxHeartbeats 4000000 in
set_option maxRecDepth 100000 in
theorem T_X8_sendGrains {P : mh_E → Prop} {N d : Nat} (hd : 4 ≤ d) {z : mh_H} {h : mh_H} {l0 : Nat} {l1 : Int32} {l2 : Int32} {l3 : Int32} {l4 : Int32} {l5 : Nat} (hq : D_X8_sendGrains N h l0 l1 l2 l3 l4 l5 = some z) : mh_go P d mX8_sendGrains 0 [some (.ref l0), some (.int l1), some (.int l2), some (.int l3), some (.int l4), some (.ref l5), none, none, none, none] [] h none z := by
  unfold D_X8_sendGrains at hq
  refine st_aload_n (pc := 0) dX8_sendGrains_0 rfl ?_
  refine bd_getr (pc := 1) hq dX8_sendGrains_1 fl_8_29_8 rfl (fun v1 hq => ?_)
  refine st_iload_n (pc := 4) dX8_sendGrains_4 rfl ?_
  refine st_iconst (pc := 5) (v := (5 : Int32)) dX8_sendGrains_5 rfl ?_
  refine st_imul (pc := 6) dX8_sendGrains_6 ?_
  refine st_iload_n (pc := 7) dX8_sendGrains_7 rfl ?_
  refine st_iadd (pc := 8) dX8_sendGrains_8 ?_
  refine bd_iald (pc := 9) hq dX8_sendGrains_9 (fun v2 hq => ?_)
  refine st_istore (pc := 10) (lv' := [some (.ref l0), some (.int l1), some (.int l2), some (.int l3), some (.int l4), some (.ref l5), some (.int v2), none, none, none]) dX8_sendGrains_10 rfl (by decide) rfl ?_
  refine st_iload (pc := 12) dX8_sendGrains_12 rfl ?_
  refine st_istore (pc := 14) (lv' := [some (.ref l0), some (.int l1), some (.int l2), some (.int l3), some (.int l4), some (.ref l5), some (.int v2), some (.int v2), none, none]) dX8_sendGrains_14 rfl (by decide) rfl ?_
  refine st_iconst (pc := 16) (v := (0 : Int32)) dX8_sendGrains_16 rfl ?_
  refine st_istore (pc := 17) (lv' := [some (.ref l0), some (.int l1), some (.int l2), some (.int l3), some (.int l4), some (.ref l5), some (.int v2), some (.int v2), some (.int (0 : Int32)), none]) dX8_sendGrains_17 rfl (by decide) rfl ?_
  exact T_X8_sendGrains_19 hd N _ _ _ _ _ _ _ _ _ _ hq
-- HoleWater$Water.shareOut(IILHoleWater$World;)I
theorem dX8_shareOut_90 : decode cX8_shareOut 90 = .ok (.iinc 6 1, 3) := by decide +kernel
theorem dX8_shareOut_93 : decode cX8_shareOut 93 = .ok (.goto (-84), 3) := by decide +kernel
theorem dX8_shareOut_78 : decode cX8_shareOut 78 = .ok (.aload 7, 2) := by decide +kernel
theorem dX8_shareOut_80 : decode cX8_shareOut 80 = .ok (.getfield 128, 3) := by decide +kernel
theorem dX8_shareOut_83 : decode cX8_shareOut 83 = .ok (.iload_n 1, 1) := by decide +kernel
theorem dX8_shareOut_84 : decode cX8_shareOut 84 = .ok (.if_icmp .ne 6, 3) := by decide +kernel
theorem dX8_shareOut_87 : decode cX8_shareOut 87 = .ok (.iinc 5 1, 3) := by decide +kernel
theorem dX8_shareOut_185 : decode cX8_shareOut 185 = .ok (.iinc 8 1, 3) := by decide +kernel
theorem dX8_shareOut_188 : decode cX8_shareOut 188 = .ok (.goto (-62), 3) := by decide +kernel
theorem dX8_shareOut_181 : decode cX8_shareOut 181 = .ok (.iastore, 1) := by decide +kernel
theorem dX8_shareOut_182 : decode cX8_shareOut 182 = .ok (.iinc 7 (-1), 3) := by decide +kernel
theorem dX8_shareOut_126 : decode cX8_shareOut 126 = .ok (.iload 8, 2) := by decide +kernel
theorem dX8_shareOut_128 : decode cX8_shareOut 128 = .ok (.aload_n 3, 1) := by decide +kernel
theorem dX8_shareOut_129 : decode cX8_shareOut 129 = .ok (.getfield 60, 3) := by decide +kernel
theorem dX8_shareOut_132 : decode cX8_shareOut 132 = .ok (.if_icmp .ge 59, 3) := by decide +kernel
theorem dX8_shareOut_191 : decode cX8_shareOut 191 = .ok (.iconst 0, 1) := by decide +kernel
theorem dX8_shareOut_192 : decode cX8_shareOut 192 = .ok (.ireturn, 1) := by decide +kernel
theorem dX8_shareOut_135 : decode cX8_shareOut 135 = .ok (.aload_n 3, 1) := by decide +kernel
theorem dX8_shareOut_136 : decode cX8_shareOut 136 = .ok (.getfield 65, 3) := by decide +kernel
theorem dX8_shareOut_139 : decode cX8_shareOut 139 = .ok (.iload 8, 2) := by decide +kernel
theorem dX8_shareOut_141 : decode cX8_shareOut 141 = .ok (.aaload, 1) := by decide +kernel
theorem dX8_shareOut_142 : decode cX8_shareOut 142 = .ok (.astore 9, 2) := by decide +kernel
theorem dX8_shareOut_144 : decode cX8_shareOut 144 = .ok (.aload 9, 2) := by decide +kernel
theorem dX8_shareOut_146 : decode cX8_shareOut 146 = .ok (.getfield 128, 3) := by decide +kernel
theorem dX8_shareOut_149 : decode cX8_shareOut 149 = .ok (.iload_n 1, 1) := by decide +kernel
theorem dX8_shareOut_150 : decode cX8_shareOut 150 = .ok (.if_icmp .ne 35, 3) := by decide +kernel
theorem dX8_shareOut_153 : decode cX8_shareOut 153 = .ok (.aload 9, 2) := by decide +kernel
theorem dX8_shareOut_155 : decode cX8_shareOut 155 = .ok (.instanceof 142, 3) := by decide +kernel
theorem dX8_shareOut_158 : decode cX8_shareOut 158 = .ok (.ifCond .ne 27, 3) := by decide +kernel
theorem dX8_shareOut_161 : decode cX8_shareOut 161 = .ok (.aload_n 0, 1) := by decide +kernel
theorem dX8_shareOut_162 : decode cX8_shareOut 162 = .ok (.getfield 47, 3) := by decide +kernel
theorem dX8_shareOut_165 : decode cX8_shareOut 165 = .ok (.iload 8, 2) := by decide +kernel
theorem dX8_shareOut_167 : decode cX8_shareOut 167 = .ok (.iload 7, 2) := by decide +kernel
theorem dX8_shareOut_169 : decode cX8_shareOut 169 = .ok (.ifCond .le 10, 3) := by decide +kernel
theorem dX8_shareOut_179 : decode cX8_shareOut 179 = .ok (.iload 6, 2) := by decide +kernel
theorem dX8_shareOut_172 : decode cX8_shareOut 172 = .ok (.iload 6, 2) := by decide +kernel
theorem dX8_shareOut_174 : decode cX8_shareOut 174 = .ok (.iconst 1, 1) := by decide +kernel
theorem dX8_shareOut_175 : decode cX8_shareOut 175 = .ok (.iadd, 1) := by decide +kernel
theorem dX8_shareOut_176 : decode cX8_shareOut 176 = .ok (.goto 5, 3) := by decide +kernel
theorem dX8_shareOut_9 : decode cX8_shareOut 9 = .ok (.iload 6, 2) := by decide +kernel
theorem dX8_shareOut_11 : decode cX8_shareOut 11 = .ok (.aload_n 3, 1) := by decide +kernel
theorem dX8_shareOut_12 : decode cX8_shareOut 12 = .ok (.getfield 60, 3) := by decide +kernel
theorem dX8_shareOut_15 : decode cX8_shareOut 15 = .ok (.if_icmp .ge 81, 3) := by decide +kernel
theorem dX8_shareOut_96 : decode cX8_shareOut 96 = .ok (.iload 5, 2) := by decide +kernel
theorem dX8_shareOut_98 : decode cX8_shareOut 98 = .ok (.ifCond .ne 6, 3) := by decide +kernel
theorem dX8_shareOut_101 : decode cX8_shareOut 101 = .ok (.iload 4, 2) := by decide +kernel
theorem dX8_shareOut_103 : decode cX8_shareOut 103 = .ok (.ireturn, 1) := by decide +kernel
theorem dX8_shareOut_104 : decode cX8_shareOut 104 = .ok (.iload 4, 2) := by decide +kernel
theorem dX8_shareOut_106 : decode cX8_shareOut 106 = .ok (.iload 5, 2) := by decide +kernel
theorem dX8_shareOut_108 : decode cX8_shareOut 108 = .ok (.invokestatic 150, 3) := by decide +kernel
theorem dX8_shareOut_111 : decode cX8_shareOut 111 = .ok (.istore 6, 2) := by decide +kernel
theorem dX8_shareOut_113 : decode cX8_shareOut 113 = .ok (.iload 4, 2) := by decide +kernel
theorem dX8_shareOut_115 : decode cX8_shareOut 115 = .ok (.iload 6, 2) := by decide +kernel
theorem dX8_shareOut_117 : decode cX8_shareOut 117 = .ok (.iload 5, 2) := by decide +kernel
theorem dX8_shareOut_119 : decode cX8_shareOut 119 = .ok (.imul, 1) := by decide +kernel
theorem dX8_shareOut_120 : decode cX8_shareOut 120 = .ok (.isub, 1) := by decide +kernel
theorem dX8_shareOut_121 : decode cX8_shareOut 121 = .ok (.istore 7, 2) := by decide +kernel
theorem dX8_shareOut_123 : decode cX8_shareOut 123 = .ok (.iconst 0, 1) := by decide +kernel
theorem dX8_shareOut_124 : decode cX8_shareOut 124 = .ok (.istore 8, 2) := by decide +kernel
theorem dX8_shareOut_18 : decode cX8_shareOut 18 = .ok (.aload_n 3, 1) := by decide +kernel
theorem dX8_shareOut_19 : decode cX8_shareOut 19 = .ok (.getfield 65, 3) := by decide +kernel
theorem dX8_shareOut_22 : decode cX8_shareOut 22 = .ok (.iload 6, 2) := by decide +kernel
theorem dX8_shareOut_24 : decode cX8_shareOut 24 = .ok (.aaload, 1) := by decide +kernel
theorem dX8_shareOut_25 : decode cX8_shareOut 25 = .ok (.astore 7, 2) := by decide +kernel
theorem dX8_shareOut_27 : decode cX8_shareOut 27 = .ok (.aload 7, 2) := by decide +kernel
theorem dX8_shareOut_29 : decode cX8_shareOut 29 = .ok (.getfield 128, 3) := by decide +kernel
theorem dX8_shareOut_32 : decode cX8_shareOut 32 = .ok (.iload_n 1, 1) := by decide +kernel
theorem dX8_shareOut_33 : decode cX8_shareOut 33 = .ok (.if_icmp .ne 45, 3) := by decide +kernel
theorem dX8_shareOut_36 : decode cX8_shareOut 36 = .ok (.aload 7, 2) := by decide +kernel
theorem dX8_shareOut_38 : decode cX8_shareOut 38 = .ok (.instanceof 142, 3) := by decide +kernel
theorem dX8_shareOut_41 : decode cX8_shareOut 41 = .ok (.ifCond .eq 37, 3) := by decide +kernel
theorem dX8_shareOut_44 : decode cX8_shareOut 44 = .ok (.aload_n 0, 1) := by decide +kernel
theorem dX8_shareOut_45 : decode cX8_shareOut 45 = .ok (.getfield 47, 3) := by decide +kernel
theorem dX8_shareOut_48 : decode cX8_shareOut 48 = .ok (.iload 6, 2) := by decide +kernel
theorem dX8_shareOut_50 : decode cX8_shareOut 50 = .ok (.iconst 0, 1) := by decide +kernel
theorem dX8_shareOut_51 : decode cX8_shareOut 51 = .ok (.iload 4, 2) := by decide +kernel
theorem dX8_shareOut_53 : decode cX8_shareOut 53 = .ok (.aload 7, 2) := by decide +kernel
theorem dX8_shareOut_55 : decode cX8_shareOut 55 = .ok (.getfield 144, 3) := by decide +kernel
theorem dX8_shareOut_58 : decode cX8_shareOut 58 = .ok (.isub, 1) := by decide +kernel
theorem dX8_shareOut_59 : decode cX8_shareOut 59 = .ok (.invokestatic 147, 3) := by decide +kernel
theorem dX8_shareOut_62 : decode cX8_shareOut 62 = .ok (.iastore, 1) := by decide +kernel
theorem dX8_shareOut_63 : decode cX8_shareOut 63 = .ok (.iload 4, 2) := by decide +kernel
theorem dX8_shareOut_65 : decode cX8_shareOut 65 = .ok (.aload_n 0, 1) := by decide +kernel
theorem dX8_shareOut_66 : decode cX8_shareOut 66 = .ok (.getfield 47, 3) := by decide +kernel
theorem dX8_shareOut_69 : decode cX8_shareOut 69 = .ok (.iload 6, 2) := by decide +kernel
theorem dX8_shareOut_71 : decode cX8_shareOut 71 = .ok (.iaload, 1) := by decide +kernel
theorem dX8_shareOut_72 : decode cX8_shareOut 72 = .ok (.isub, 1) := by decide +kernel
theorem dX8_shareOut_73 : decode cX8_shareOut 73 = .ok (.istore 4, 2) := by decide +kernel
theorem dX8_shareOut_75 : decode cX8_shareOut 75 = .ok (.goto 15, 3) := by decide +kernel
theorem dX8_shareOut_0 : decode cX8_shareOut 0 = .ok (.iload_n 2, 1) := by decide +kernel
theorem dX8_shareOut_1 : decode cX8_shareOut 1 = .ok (.istore 4, 2) := by decide +kernel
theorem dX8_shareOut_3 : decode cX8_shareOut 3 = .ok (.iconst 0, 1) := by decide +kernel
theorem dX8_shareOut_4 : decode cX8_shareOut 4 = .ok (.istore 5, 2) := by decide +kernel
theorem dX8_shareOut_6 : decode cX8_shareOut 6 = .ok (.iconst 0, 1) := by decide +kernel
theorem dX8_shareOut_7 : decode cX8_shareOut 7 = .ok (.istore 6, 2) := by decide +kernel
def D_X8_shareOut_90 (N : Nat) (k9 : mh_H → Nat → Int32 → Nat → Int32 → Int32 → Int32 → Option (Int32 × mh_H)) (h : mh_H) (l0 : Nat) (l1 : Int32) (l3 : Nat) (l4 : Int32) (l5 : Int32) (l6 : Int32) : Option (Int32 × mh_H) :=
  k9 h l0 l1 l3 l4 l5 (l6 + Int32.ofInt (1))
set_option maxHeartbeats 4000000 in
set_option maxRecDepth 100000 in
theorem T_X8_shareOut_90 {P : mh_E → Prop} {N d : Nat} (hd : 2 ≤ d) {z : (Int32 × mh_H)} {k9 : mh_H → Nat → Int32 → Nat → Int32 → Int32 → Int32 → Option (Int32 × mh_H)} (hk9 : ∀ (h : mh_H) (l0 : Nat) (l1 : Int32) (l3 : Nat) (l4 : Int32) (l5 : Int32) (l6 : Int32), k9 h l0 l1 l3 l4 l5 l6 = some z → mh_go P d mX8_shareOut 9 [some (.ref l0), some (.int l1), none, some (.ref l3), some (.int l4), some (.int l5), some (.int l6), none, none, none] [] h (some (.int z.1)) z.2) {h : mh_H} {l0 : Nat} {l1 : Int32} {l3 : Nat} {l4 : Int32} {l5 : Int32} {l6 : Int32} (hq : D_X8_shareOut_90 N k9 h l0 l1 l3 l4 l5 l6 = some z) : mh_go P d mX8_shareOut 90 [some (.ref l0), some (.int l1), none, some (.ref l3), some (.int l4), some (.int l5), some (.int l6), none, none, none] [] h (some (.int z.1)) z.2 := by
  unfold D_X8_shareOut_90 at hq
  refine st_iinc (pc := 90) (lv' := [some (.ref l0), some (.int l1), none, some (.ref l3), some (.int l4), some (.int l5), some (.int (l6 + Int32.ofInt (1))), none, none, none]) dX8_shareOut_90 rfl rfl (by decide) rfl ?_
  refine st_goto (pc := 93) (tgt := 9) dX8_shareOut_93 (by decide) ?_
  exact hk9 _ _ _ _ _ _ _ hq
def D_X8_shareOut_78 (N : Nat) (k9 : mh_H → Nat → Int32 → Nat → Int32 → Int32 → Int32 → Option (Int32 × mh_H)) (h : mh_H) (l0 : Nat) (l1 : Int32) (l3 : Nat) (l4 : Int32) (l5 : Int32) (l6 : Int32) (l7 : Nat) : Option (Int32 × mh_H) :=
  (gW h l7 0).bind fun v1 =>
  if v1 = l1 then (D_X8_shareOut_90 N k9 h l0 l1 l3 l4 (l5 + Int32.ofInt (1)) l6)
  else (D_X8_shareOut_90 N k9 h l0 l1 l3 l4 l5 l6)
set_option maxHeartbeats 4000000 in
set_option maxRecDepth 100000 in
theorem T_X8_shareOut_78 {P : mh_E → Prop} {N d : Nat} (hd : 2 ≤ d) {z : (Int32 × mh_H)} {k9 : mh_H → Nat → Int32 → Nat → Int32 → Int32 → Int32 → Option (Int32 × mh_H)} (hk9 : ∀ (h : mh_H) (l0 : Nat) (l1 : Int32) (l3 : Nat) (l4 : Int32) (l5 : Int32) (l6 : Int32), k9 h l0 l1 l3 l4 l5 l6 = some z → mh_go P d mX8_shareOut 9 [some (.ref l0), some (.int l1), none, some (.ref l3), some (.int l4), some (.int l5), some (.int l6), none, none, none] [] h (some (.int z.1)) z.2) {h : mh_H} {l0 : Nat} {l1 : Int32} {l3 : Nat} {l4 : Int32} {l5 : Int32} {l6 : Int32} {l7 : Nat} (hq : D_X8_shareOut_78 N k9 h l0 l1 l3 l4 l5 l6 l7 = some z) : mh_go P d mX8_shareOut 78 [some (.ref l0), some (.int l1), none, some (.ref l3), some (.int l4), some (.int l5), some (.int l6), some (.ref l7), none, none] [] h (some (.int z.1)) z.2 := by
  unfold D_X8_shareOut_78 at hq
  refine st_aload (pc := 78) dX8_shareOut_78 rfl ?_
  refine bd_getw (pc := 80) hq dX8_shareOut_80 flw_8_128 (by decide) (fun v1 hq => ?_)
  refine st_iload_n (pc := 83) dX8_shareOut_83 rfl ?_
  refine bd_icmp_ne (pc := 84) (tgt := 90) hq dX8_shareOut_84 (by decide) (fun _ hq => ?_) (fun _ hq => ?_)
  ·
    refine st_iinc (pc := 87) (lv' := [some (.ref l0), some (.int l1), none, some (.ref l3), some (.int l4), some (.int (l5 + Int32.ofInt (1))), some (.int l6), some (.ref l7), none, none]) dX8_shareOut_87 rfl rfl (by decide) rfl ?_
    refine st_lesS (lv' := [some (.ref l0), some (.int l1), none, some (.ref l3), some (.int l4), some (.int (l5 + Int32.ofInt (1))), some (.int l6), none, none, none]) ⟨Or.inr rfl, Or.inr rfl, Or.inr rfl, Or.inr rfl, Or.inr rfl, Or.inr rfl, Or.inr rfl, Or.inl rfl, Or.inr rfl, Or.inr rfl, trivial⟩ ?_
    exact T_X8_shareOut_90 hd hk9 hq
  ·
    refine st_lesS (lv' := [some (.ref l0), some (.int l1), none, some (.ref l3), some (.int l4), some (.int l5), some (.int l6), none, none, none]) ⟨Or.inr rfl, Or.inr rfl, Or.inr rfl, Or.inr rfl, Or.inr rfl, Or.inr rfl, Or.inr rfl, Or.inl rfl, Or.inr rfl, Or.inr rfl, trivial⟩ ?_
    exact T_X8_shareOut_90 hd hk9 hq
def D_X8_shareOut_185 (N : Nat) (k126 : mh_H → Nat → Int32 → Nat → Int32 → Int32 → Int32 → Option (Int32 × mh_H)) (h : mh_H) (l0 : Nat) (l1 : Int32) (l3 : Nat) (l6 : Int32) (l7 : Int32) (l8 : Int32) : Option (Int32 × mh_H) :=
  k126 h l0 l1 l3 l6 l7 (l8 + Int32.ofInt (1))
set_option maxHeartbeats 4000000 in
set_option maxRecDepth 100000 in
theorem T_X8_shareOut_185 {P : mh_E → Prop} {N d : Nat} (hd : 2 ≤ d) {z : (Int32 × mh_H)} {k126 : mh_H → Nat → Int32 → Nat → Int32 → Int32 → Int32 → Option (Int32 × mh_H)} (hk126 : ∀ (h : mh_H) (l0 : Nat) (l1 : Int32) (l3 : Nat) (l6 : Int32) (l7 : Int32) (l8 : Int32), k126 h l0 l1 l3 l6 l7 l8 = some z → mh_go P d mX8_shareOut 126 [some (.ref l0), some (.int l1), none, some (.ref l3), none, none, some (.int l6), some (.int l7), some (.int l8), none] [] h (some (.int z.1)) z.2) {h : mh_H} {l0 : Nat} {l1 : Int32} {l3 : Nat} {l6 : Int32} {l7 : Int32} {l8 : Int32} (hq : D_X8_shareOut_185 N k126 h l0 l1 l3 l6 l7 l8 = some z) : mh_go P d mX8_shareOut 185 [some (.ref l0), some (.int l1), none, some (.ref l3), none, none, some (.int l6), some (.int l7), some (.int l8), none] [] h (some (.int z.1)) z.2 := by
  unfold D_X8_shareOut_185 at hq
  refine st_iinc (pc := 185) (lv' := [some (.ref l0), some (.int l1), none, some (.ref l3), none, none, some (.int l6), some (.int l7), some (.int (l8 + Int32.ofInt (1))), none]) dX8_shareOut_185 rfl rfl (by decide) rfl ?_
  refine st_goto (pc := 188) (tgt := 126) dX8_shareOut_188 (by decide) ?_
  exact hk126 _ _ _ _ _ _ _ hq
def D_X8_shareOut_181 (N : Nat) (k126 : mh_H → Nat → Int32 → Nat → Int32 → Int32 → Int32 → Option (Int32 × mh_H)) (h : mh_H) (l0 : Nat) (l1 : Int32) (l3 : Nat) (l6 : Int32) (l7 : Int32) (l8 : Int32) (s0 : Nat) (s1 : Int32) (s2 : Int32) : Option (Int32 × mh_H) :=
  (uI h s0 s1 s2).bind fun h1 =>
  D_X8_shareOut_185 N k126 h1 l0 l1 l3 l6 (l7 + Int32.ofInt (-1)) l8
set_option maxHeartbeats 4000000 in
set_option maxRecDepth 100000 in
theorem T_X8_shareOut_181 {P : mh_E → Prop} {N d : Nat} (hd : 2 ≤ d) {z : (Int32 × mh_H)} {k126 : mh_H → Nat → Int32 → Nat → Int32 → Int32 → Int32 → Option (Int32 × mh_H)} (hk126 : ∀ (h : mh_H) (l0 : Nat) (l1 : Int32) (l3 : Nat) (l6 : Int32) (l7 : Int32) (l8 : Int32), k126 h l0 l1 l3 l6 l7 l8 = some z → mh_go P d mX8_shareOut 126 [some (.ref l0), some (.int l1), none, some (.ref l3), none, none, some (.int l6), some (.int l7), some (.int l8), none] [] h (some (.int z.1)) z.2) {h : mh_H} {l0 : Nat} {l1 : Int32} {l3 : Nat} {l6 : Int32} {l7 : Int32} {l8 : Int32} {s0 : Nat} {s1 : Int32} {s2 : Int32} (hq : D_X8_shareOut_181 N k126 h l0 l1 l3 l6 l7 l8 s0 s1 s2 = some z) : mh_go P d mX8_shareOut 181 [some (.ref l0), some (.int l1), none, some (.ref l3), none, none, some (.int l6), some (.int l7), some (.int l8), none] [.int s2, .int s1, .ref s0] h (some (.int z.1)) z.2 := by
  unfold D_X8_shareOut_181 at hq
  refine bd_iast (pc := 181) hq dX8_shareOut_181 (fun h1 hq => ?_)
  refine st_iinc (pc := 182) (lv' := [some (.ref l0), some (.int l1), none, some (.ref l3), none, none, some (.int l6), some (.int (l7 + Int32.ofInt (-1))), some (.int l8), none]) dX8_shareOut_182 rfl rfl (by decide) rfl ?_
  exact T_X8_shareOut_185 hd hk126 hq
def D_X8_shareOut_126 (N : Nat) : Nat → mh_H → Nat → Int32 → Nat → Int32 → Int32 → Int32 → Option (Int32 × mh_H)
  | 0, _, _, _, _, _, _, _ => none
  | F + 1, h, l0, l1, l3, l6, l7, l8 =>
    (gI h 10 l3 1).bind fun v1 =>
    if v1 ≤ l8 then (some ((0 : Int32), h))
    else ((gR h 10 l3 6).bind fun v2 =>
    (aR h v2 l8).bind fun v3 =>
    (gW h v3 0).bind fun v4 =>
    if v4 = l1 then ((iK h v3 3).bind fun v5 =>
    if v5 = 0 then ((gR h 8 l0 11).bind fun v6 =>
    if l7 ≤ 0 then (D_X8_shareOut_181 N (D_X8_shareOut_126 N F) h l0 l1 l3 l6 l7 l8 v6 l8 l6)
    else (D_X8_shareOut_181 N (D_X8_shareOut_126 N F) h l0 l1 l3 l6 l7 l8 v6 l8 (l6 + (1 : Int32))))
    else (D_X8_shareOut_185 N (D_X8_shareOut_126 N F) h l0 l1 l3 l6 l7 l8))
    else (D_X8_shareOut_185 N (D_X8_shareOut_126 N F) h l0 l1 l3 l6 l7 l8))
set_option maxHeartbeats 4000000 in
set_option maxRecDepth 100000 in
theorem T_X8_shareOut_126 {P : mh_E → Prop} {N d : Nat} (hd : 2 ≤ d) {z : (Int32 × mh_H)} : ∀ (F : Nat) (h : mh_H) (l0 : Nat) (l1 : Int32) (l3 : Nat) (l6 : Int32) (l7 : Int32) (l8 : Int32), D_X8_shareOut_126 N F h l0 l1 l3 l6 l7 l8 = some z → mh_go P d mX8_shareOut 126 [some (.ref l0), some (.int l1), none, some (.ref l3), none, none, some (.int l6), some (.int l7), some (.int l8), none] [] h (some (.int z.1)) z.2 := by
  intro F
  induction F with
  | zero => intro h l0 l1 l3 l6 l7 l8 hq; rw [D_X8_shareOut_126] at hq; cases hq
  | succ F ih =>
    intro h l0 l1 l3 l6 l7 l8 hq
    rw [D_X8_shareOut_126] at hq
    refine st_iload (pc := 126) dX8_shareOut_126 rfl ?_
    refine st_aload_n (pc := 128) dX8_shareOut_128 rfl ?_
    refine bd_geti (pc := 129) hq dX8_shareOut_129 fl_8_60_10 rfl (fun v1 hq => ?_)
    refine bd_icmp_ge (pc := 132) (tgt := 191) hq dX8_shareOut_132 (by decide) (fun _ hq => ?_) (fun _ hq => ?_)
    ·
      refine st_iconst (pc := 191) (v := (0 : Int32)) dX8_shareOut_191 rfl ?_
      exact bd_iret (pc := 192) hq dX8_shareOut_192 rfl
    ·
      refine st_aload_n (pc := 135) dX8_shareOut_135 rfl ?_
      refine bd_getr (pc := 136) hq dX8_shareOut_136 fl_8_65_10 rfl (fun v2 hq => ?_)
      refine st_iload (pc := 139) dX8_shareOut_139 rfl ?_
      refine bd_aald (pc := 141) hq dX8_shareOut_141 (fun v3 hq => ?_)
      refine st_astore (pc := 142) (lv' := [some (.ref l0), some (.int l1), none, some (.ref l3), none, none, some (.int l6), some (.int l7), some (.int l8), some (.ref v3)]) dX8_shareOut_142 rfl (by decide) rfl ?_
      refine st_aload (pc := 144) dX8_shareOut_144 rfl ?_
      refine bd_getw (pc := 146) hq dX8_shareOut_146 flw_8_128 (by decide) (fun v4 hq => ?_)
      refine st_iload_n (pc := 149) dX8_shareOut_149 rfl ?_
      refine bd_icmp_ne (pc := 150) (tgt := 185) hq dX8_shareOut_150 (by decide) (fun _ hq => ?_) (fun _ hq => ?_)
      ·
        refine st_aload (pc := 153) dX8_shareOut_153 rfl ?_
        refine bd_inst (pc := 155) hq dX8_shareOut_155 wd_588 mh_instY3 mh_instN3 (fun v5 hq => ?_)
        refine bd_if_ne (pc := 158) (tgt := 185) hq dX8_shareOut_158 (by decide) (fun _ hq => ?_) (fun _ hq => ?_)
        ·
          refine st_aload_n (pc := 161) dX8_shareOut_161 rfl ?_
          refine bd_getr (pc := 162) hq dX8_shareOut_162 fl_8_47_8 rfl (fun v6 hq => ?_)
          refine st_iload (pc := 165) dX8_shareOut_165 rfl ?_
          refine st_iload (pc := 167) dX8_shareOut_167 rfl ?_
          refine bd_if_le (pc := 169) (tgt := 179) hq dX8_shareOut_169 (by decide) (fun _ hq => ?_) (fun _ hq => ?_)
          ·
            refine st_iload (pc := 179) dX8_shareOut_179 rfl ?_
            refine st_lesS (lv' := [some (.ref l0), some (.int l1), none, some (.ref l3), none, none, some (.int l6), some (.int l7), some (.int l8), none]) ⟨Or.inr rfl, Or.inr rfl, Or.inr rfl, Or.inr rfl, Or.inr rfl, Or.inr rfl, Or.inr rfl, Or.inr rfl, Or.inr rfl, Or.inl rfl, trivial⟩ ?_
            exact T_X8_shareOut_181 hd ih hq
          ·
            refine st_iload (pc := 172) dX8_shareOut_172 rfl ?_
            refine st_iconst (pc := 174) (v := (1 : Int32)) dX8_shareOut_174 rfl ?_
            refine st_iadd (pc := 175) dX8_shareOut_175 ?_
            refine st_goto (pc := 176) (tgt := 181) dX8_shareOut_176 (by decide) ?_
            refine st_lesS (lv' := [some (.ref l0), some (.int l1), none, some (.ref l3), none, none, some (.int l6), some (.int l7), some (.int l8), none]) ⟨Or.inr rfl, Or.inr rfl, Or.inr rfl, Or.inr rfl, Or.inr rfl, Or.inr rfl, Or.inr rfl, Or.inr rfl, Or.inr rfl, Or.inl rfl, trivial⟩ ?_
            exact T_X8_shareOut_181 hd ih hq
        ·
          refine st_lesS (lv' := [some (.ref l0), some (.int l1), none, some (.ref l3), none, none, some (.int l6), some (.int l7), some (.int l8), none]) ⟨Or.inr rfl, Or.inr rfl, Or.inr rfl, Or.inr rfl, Or.inr rfl, Or.inr rfl, Or.inr rfl, Or.inr rfl, Or.inr rfl, Or.inl rfl, trivial⟩ ?_
          exact T_X8_shareOut_185 hd ih hq
      ·
        refine st_lesS (lv' := [some (.ref l0), some (.int l1), none, some (.ref l3), none, none, some (.int l6), some (.int l7), some (.int l8), none]) ⟨Or.inr rfl, Or.inr rfl, Or.inr rfl, Or.inr rfl, Or.inr rfl, Or.inr rfl, Or.inr rfl, Or.inr rfl, Or.inr rfl, Or.inl rfl, trivial⟩ ?_
        exact T_X8_shareOut_185 hd ih hq
def D_X8_shareOut_9 (N : Nat) : Nat → mh_H → Nat → Int32 → Nat → Int32 → Int32 → Int32 → Option (Int32 × mh_H)
  | 0, _, _, _, _, _, _, _ => none
  | F + 1, h, l0, l1, l3, l4, l5, l6 =>
    (gI h 10 l3 1).bind fun v1 =>
    if v1 ≤ l6 then (if l5 = 0 then (some (l4, h))
    else ((D_X11_by N h l4 l5).bind fun q2 =>
    D_X8_shareOut_126 N N q2.2 l0 l1 l3 q2.1 (l4 - (q2.1 * l5)) (0 : Int32)))
    else ((gR h 10 l3 6).bind fun v2 =>
    (aR h v2 l6).bind fun v3 =>
    (gW h v3 0).bind fun v4 =>
    if v4 = l1 then ((iK h v3 3).bind fun v5 =>
    if v5 = 0 then (D_X8_shareOut_78 N (D_X8_shareOut_9 N F) h l0 l1 l3 l4 l5 l6 v3)
    else ((gR h 8 l0 11).bind fun v6 =>
    (gW h v3 3).bind fun v7 =>
    (uI h v6 l6 (mh_max (0 : Int32) (l4 - v7))).bind fun h8 =>
    (gR h8 8 l0 11).bind fun v9 =>
    (aI h8 v9 l6).bind fun v10 =>
    D_X8_shareOut_90 N (D_X8_shareOut_9 N F) h8 l0 l1 l3 (l4 - v10) l5 l6))
    else (D_X8_shareOut_78 N (D_X8_shareOut_9 N F) h l0 l1 l3 l4 l5 l6 v3))
set_option maxHeartbeats 4000000 in
set_option maxRecDepth 100000 in
theorem T_X8_shareOut_9 {P : mh_E → Prop} {N d : Nat} (hd : 2 ≤ d) {z : (Int32 × mh_H)} : ∀ (F : Nat) (h : mh_H) (l0 : Nat) (l1 : Int32) (l3 : Nat) (l4 : Int32) (l5 : Int32) (l6 : Int32), D_X8_shareOut_9 N F h l0 l1 l3 l4 l5 l6 = some z → mh_go P d mX8_shareOut 9 [some (.ref l0), some (.int l1), none, some (.ref l3), some (.int l4), some (.int l5), some (.int l6), none, none, none] [] h (some (.int z.1)) z.2 := by
  intro F
  induction F with
  | zero => intro h l0 l1 l3 l4 l5 l6 hq; rw [D_X8_shareOut_9] at hq; cases hq
  | succ F ih =>
    intro h l0 l1 l3 l4 l5 l6 hq
    rw [D_X8_shareOut_9] at hq
    refine st_iload (pc := 9) dX8_shareOut_9 rfl ?_
    refine st_aload_n (pc := 11) dX8_shareOut_11 rfl ?_
    refine bd_geti (pc := 12) hq dX8_shareOut_12 fl_8_60_10 rfl (fun v1 hq => ?_)
    refine bd_icmp_ge (pc := 15) (tgt := 96) hq dX8_shareOut_15 (by decide) (fun _ hq => ?_) (fun _ hq => ?_)
    ·
      refine st_iload (pc := 96) dX8_shareOut_96 rfl ?_
      refine bd_if_ne (pc := 98) (tgt := 104) hq dX8_shareOut_98 (by decide) (fun _ hq => ?_) (fun _ hq => ?_)
      ·
        refine st_iload (pc := 101) dX8_shareOut_101 rfl ?_
        exact bd_iret (pc := 103) hq dX8_shareOut_103 rfl
      ·
        refine st_iload (pc := 104) dX8_shareOut_104 rfl ?_
        refine st_iload (pc := 106) dX8_shareOut_106 rfl ?_
        obtain ⟨q2, e2, hq⟩ := mh_ob hq
        refine st_invSN (pc := 108) (Y := mX11_by) (vs := [.int l4, .int l5]) (rest := []) (st2 := [.int q2.1]) dX8_shareOut_108 okX11_by wn_590 wd_539 pdX11_by rfl rfl rfl rfl (Nat.le_trans (by decide) hd) (Nat.le_of_ble_eq_true rfl) (T_X11_by (Nat.le_refl _) e2) rfl ?_
        refine st_istore (pc := 111) (lv' := [some (.ref l0), some (.int l1), none, some (.ref l3), some (.int l4), some (.int l5), some (.int q2.1), none, none, none]) dX8_shareOut_111 rfl (by decide) rfl ?_
        refine st_iload (pc := 113) dX8_shareOut_113 rfl ?_
        refine st_iload (pc := 115) dX8_shareOut_115 rfl ?_
        refine st_iload (pc := 117) dX8_shareOut_117 rfl ?_
        refine st_imul (pc := 119) dX8_shareOut_119 ?_
        refine st_isub (pc := 120) dX8_shareOut_120 ?_
        refine st_istore (pc := 121) (lv' := [some (.ref l0), some (.int l1), none, some (.ref l3), some (.int l4), some (.int l5), some (.int q2.1), some (.int (l4 - (q2.1 * l5))), none, none]) dX8_shareOut_121 rfl (by decide) rfl ?_
        refine st_iconst (pc := 123) (v := (0 : Int32)) dX8_shareOut_123 rfl ?_
        refine st_istore (pc := 124) (lv' := [some (.ref l0), some (.int l1), none, some (.ref l3), some (.int l4), some (.int l5), some (.int q2.1), some (.int (l4 - (q2.1 * l5))), some (.int (0 : Int32)), none]) dX8_shareOut_124 rfl (by decide) rfl ?_
        refine st_lesS (lv' := [some (.ref l0), some (.int l1), none, some (.ref l3), none, none, some (.int q2.1), some (.int (l4 - (q2.1 * l5))), some (.int (0 : Int32)), none]) ⟨Or.inr rfl, Or.inr rfl, Or.inr rfl, Or.inr rfl, Or.inl rfl, Or.inl rfl, Or.inr rfl, Or.inr rfl, Or.inr rfl, Or.inr rfl, trivial⟩ ?_
        exact T_X8_shareOut_126 hd N _ _ _ _ _ _ _ hq
    ·
      refine st_aload_n (pc := 18) dX8_shareOut_18 rfl ?_
      refine bd_getr (pc := 19) hq dX8_shareOut_19 fl_8_65_10 rfl (fun v2 hq => ?_)
      refine st_iload (pc := 22) dX8_shareOut_22 rfl ?_
      refine bd_aald (pc := 24) hq dX8_shareOut_24 (fun v3 hq => ?_)
      refine st_astore (pc := 25) (lv' := [some (.ref l0), some (.int l1), none, some (.ref l3), some (.int l4), some (.int l5), some (.int l6), some (.ref v3), none, none]) dX8_shareOut_25 rfl (by decide) rfl ?_
      refine st_aload (pc := 27) dX8_shareOut_27 rfl ?_
      refine bd_getw (pc := 29) hq dX8_shareOut_29 flw_8_128 (by decide) (fun v4 hq => ?_)
      refine st_iload_n (pc := 32) dX8_shareOut_32 rfl ?_
      refine bd_icmp_ne (pc := 33) (tgt := 78) hq dX8_shareOut_33 (by decide) (fun _ hq => ?_) (fun _ hq => ?_)
      ·
        refine st_aload (pc := 36) dX8_shareOut_36 rfl ?_
        refine bd_inst (pc := 38) hq dX8_shareOut_38 wd_588 mh_instY3 mh_instN3 (fun v5 hq => ?_)
        refine bd_if_eq (pc := 41) (tgt := 78) hq dX8_shareOut_41 (by decide) (fun _ hq => ?_) (fun _ hq => ?_)
        ·
          exact T_X8_shareOut_78 hd ih hq
        ·
          refine st_aload_n (pc := 44) dX8_shareOut_44 rfl ?_
          refine bd_getr (pc := 45) hq dX8_shareOut_45 fl_8_47_8 rfl (fun v6 hq => ?_)
          refine st_iload (pc := 48) dX8_shareOut_48 rfl ?_
          refine st_iconst (pc := 50) (v := (0 : Int32)) dX8_shareOut_50 rfl ?_
          refine st_iload (pc := 51) dX8_shareOut_51 rfl ?_
          refine st_aload (pc := 53) dX8_shareOut_53 rfl ?_
          refine bd_getw (pc := 55) hq dX8_shareOut_55 flw_8_144 (by decide) (fun v7 hq => ?_)
          refine st_isub (pc := 58) dX8_shareOut_58 ?_
          refine st_mmax (pc := 59) dX8_shareOut_59 wd_589 (Nat.le_trans (by decide) hd) (Nat.le_of_ble_eq_true rfl) ?_
          refine bd_iast (pc := 62) hq dX8_shareOut_62 (fun h8 hq => ?_)
          refine st_iload (pc := 63) dX8_shareOut_63 rfl ?_
          refine st_aload_n (pc := 65) dX8_shareOut_65 rfl ?_
          refine bd_getr (pc := 66) hq dX8_shareOut_66 fl_8_47_8 rfl (fun v9 hq => ?_)
          refine st_iload (pc := 69) dX8_shareOut_69 rfl ?_
          refine bd_iald (pc := 71) hq dX8_shareOut_71 (fun v10 hq => ?_)
          refine st_isub (pc := 72) dX8_shareOut_72 ?_
          refine st_istore (pc := 73) (lv' := [some (.ref l0), some (.int l1), none, some (.ref l3), some (.int (l4 - v10)), some (.int l5), some (.int l6), some (.ref v3), none, none]) dX8_shareOut_73 rfl (by decide) rfl ?_
          refine st_goto (pc := 75) (tgt := 90) dX8_shareOut_75 (by decide) ?_
          refine st_lesS (lv' := [some (.ref l0), some (.int l1), none, some (.ref l3), some (.int (l4 - v10)), some (.int l5), some (.int l6), none, none, none]) ⟨Or.inr rfl, Or.inr rfl, Or.inr rfl, Or.inr rfl, Or.inr rfl, Or.inr rfl, Or.inr rfl, Or.inl rfl, Or.inr rfl, Or.inr rfl, trivial⟩ ?_
          exact T_X8_shareOut_90 hd ih hq
      ·
        exact T_X8_shareOut_78 hd ih hq
def D_X8_shareOut (N : Nat) (h : mh_H) (l0 : Nat) (l1 : Int32) (l2 : Int32) (l3 : Nat) : Option (Int32 × mh_H) :=
  D_X8_shareOut_9 N N h l0 l1 l3 l2 (0 : Int32) (0 : Int32)
set_option maxHeartbeats 4000000 in
set_option maxRecDepth 100000 in
theorem T_X8_shareOut {P : mh_E → Prop} {N d : Nat} (hd : 2 ≤ d) {z : (Int32 × mh_H)} {h : mh_H} {l0 : Nat} {l1 : Int32} {l2 : Int32} {l3 : Nat} (hq : D_X8_shareOut N h l0 l1 l2 l3 = some z) : mh_go P d mX8_shareOut 0 [some (.ref l0), some (.int l1), some (.int l2), some (.ref l3), none, none, none, none, none, none] [] h (some (.int z.1)) z.2 := by
  unfold D_X8_shareOut at hq
  refine st_iload_n (pc := 0) dX8_shareOut_0 rfl ?_
  refine st_istore (pc := 1) (lv' := [some (.ref l0), some (.int l1), some (.int l2), some (.ref l3), some (.int l2), none, none, none, none, none]) dX8_shareOut_1 rfl (by decide) rfl ?_
  refine st_iconst (pc := 3) (v := (0 : Int32)) dX8_shareOut_3 rfl ?_
  refine st_istore (pc := 4) (lv' := [some (.ref l0), some (.int l1), some (.int l2), some (.ref l3), some (.int l2), some (.int (0 : Int32)), none, none, none, none]) dX8_shareOut_4 rfl (by decide) rfl ?_
  refine st_iconst (pc := 6) (v := (0 : Int32)) dX8_shareOut_6 rfl ?_
  refine st_istore (pc := 7) (lv' := [some (.ref l0), some (.int l1), some (.int l2), some (.ref l3), some (.int l2), some (.int (0 : Int32)), some (.int (0 : Int32)), none, none, none]) dX8_shareOut_7 rfl (by decide) rfl ?_
  refine st_lesS (lv' := [some (.ref l0), some (.int l1), none, some (.ref l3), some (.int l2), some (.int (0 : Int32)), some (.int (0 : Int32)), none, none, none]) ⟨Or.inr rfl, Or.inr rfl, Or.inl rfl, Or.inr rfl, Or.inr rfl, Or.inr rfl, Or.inr rfl, Or.inr rfl, Or.inr rfl, Or.inr rfl, trivial⟩ ?_
  exact T_X8_shareOut_9 hd N _ _ _ _ _ _ _ hq
