-- HoleWaterModel.findFar(IZ)V
theorem dX12_findFar_23 : decode cX12_findFar 23 = .ok (.iastore, 1) := by decide +kernel
theorem dX12_findFar_24 : decode cX12_findFar 24 = .ok (.iinc 3 1, 3) := by decide +kernel
theorem dX12_findFar_27 : decode cX12_findFar 27 = .ok (.goto (-25), 3) := by decide +kernel
theorem dX12_findFar_170 : decode cX12_findFar 170 = .ok (.iinc 4 1, 3) := by decide +kernel
theorem dX12_findFar_173 : decode cX12_findFar 173 = .ok (.goto (-132), 3) := by decide +kernel
theorem dX12_findFar_159 : decode cX12_findFar 159 = .ok (.aload_n 0, 1) := by decide +kernel
theorem dX12_findFar_160 : decode cX12_findFar 160 = .ok (.getfield 22, 3) := by decide +kernel
theorem dX12_findFar_163 : decode cX12_findFar 163 = .ok (.iload 7, 2) := by decide +kernel
theorem dX12_findFar_165 : decode cX12_findFar 165 = .ok (.iload 8, 2) := by decide +kernel
theorem dX12_findFar_167 : decode cX12_findFar 167 = .ok (.iastore, 1) := by decide +kernel
theorem dX12_findFar_168 : decode cX12_findFar 168 = .ok (.iconst 1, 1) := by decide +kernel
theorem dX12_findFar_169 : decode cX12_findFar 169 = .ok (.istore_n 3, 1) := by decide +kernel
theorem dX12_findFar_108 : decode cX12_findFar 108 = .ok (.aload_n 0, 1) := by decide +kernel
theorem dX12_findFar_109 : decode cX12_findFar 109 = .ok (.getfield 22, 3) := by decide +kernel
theorem dX12_findFar_112 : decode cX12_findFar 112 = .ok (.iload 6, 2) := by decide +kernel
theorem dX12_findFar_114 : decode cX12_findFar 114 = .ok (.iaload, 1) := by decide +kernel
theorem dX12_findFar_115 : decode cX12_findFar 115 = .ok (.ifCond .ge 6, 3) := by decide +kernel
theorem dX12_findFar_121 : decode cX12_findFar 121 = .ok (.aload_n 0, 1) := by decide +kernel
theorem dX12_findFar_122 : decode cX12_findFar 122 = .ok (.getfield 22, 3) := by decide +kernel
theorem dX12_findFar_125 : decode cX12_findFar 125 = .ok (.iload 6, 2) := by decide +kernel
theorem dX12_findFar_127 : decode cX12_findFar 127 = .ok (.iaload, 1) := by decide +kernel
theorem dX12_findFar_128 : decode cX12_findFar 128 = .ok (.aload_n 0, 1) := by decide +kernel
theorem dX12_findFar_129 : decode cX12_findFar 129 = .ok (.iload 4, 2) := by decide +kernel
theorem dX12_findFar_131 : decode cX12_findFar 131 = .ok (.invokevirtual 112, 3) := by decide +kernel
theorem dX12_findFar_134 : decode cX12_findFar 134 = .ok (.iadd, 1) := by decide +kernel
theorem dX12_findFar_135 : decode cX12_findFar 135 = .ok (.istore 8, 2) := by decide +kernel
theorem dX12_findFar_137 : decode cX12_findFar 137 = .ok (.aload_n 0, 1) := by decide +kernel
theorem dX12_findFar_138 : decode cX12_findFar 138 = .ok (.getfield 22, 3) := by decide +kernel
theorem dX12_findFar_141 : decode cX12_findFar 141 = .ok (.iload 7, 2) := by decide +kernel
theorem dX12_findFar_143 : decode cX12_findFar 143 = .ok (.iaload, 1) := by decide +kernel
theorem dX12_findFar_144 : decode cX12_findFar 144 = .ok (.ifCond .lt 15, 3) := by decide +kernel
theorem dX12_findFar_147 : decode cX12_findFar 147 = .ok (.iload 8, 2) := by decide +kernel
theorem dX12_findFar_149 : decode cX12_findFar 149 = .ok (.aload_n 0, 1) := by decide +kernel
theorem dX12_findFar_150 : decode cX12_findFar 150 = .ok (.getfield 22, 3) := by decide +kernel
theorem dX12_findFar_153 : decode cX12_findFar 153 = .ok (.iload 7, 2) := by decide +kernel
theorem dX12_findFar_155 : decode cX12_findFar 155 = .ok (.iaload, 1) := by decide +kernel
theorem dX12_findFar_156 : decode cX12_findFar 156 = .ok (.if_icmp .ge 14, 3) := by decide +kernel
theorem dX12_findFar_118 : decode cX12_findFar 118 = .ok (.goto 52, 3) := by decide +kernel
theorem dX12_findFar_41 : decode cX12_findFar 41 = .ok (.iload 4, 2) := by decide +kernel
theorem dX12_findFar_43 : decode cX12_findFar 43 = .ok (.aload_n 0, 1) := by decide +kernel
theorem dX12_findFar_44 : decode cX12_findFar 44 = .ok (.getfield 9, 3) := by decide +kernel
theorem dX12_findFar_47 : decode cX12_findFar 47 = .ok (.iconst 2, 1) := by decide +kernel
theorem dX12_findFar_48 : decode cX12_findFar 48 = .ok (.iaload, 1) := by decide +kernel
theorem dX12_findFar_49 : decode cX12_findFar 49 = .ok (.if_icmp .ge 127, 3) := by decide +kernel
theorem dX12_findFar_176 : decode cX12_findFar 176 = .ok (.goto (-144), 3) := by decide +kernel
theorem dX12_findFar_52 : decode cX12_findFar 52 = .ok (.aload_n 0, 1) := by decide +kernel
theorem dX12_findFar_53 : decode cX12_findFar 53 = .ok (.getfield 9, 3) := by decide +kernel
theorem dX12_findFar_56 : decode cX12_findFar 56 = .ok (.iload 4, 2) := by decide +kernel
theorem dX12_findFar_58 : decode cX12_findFar 58 = .ok (.invokestatic 99, 3) := by decide +kernel
theorem dX12_findFar_61 : decode cX12_findFar 61 = .ok (.iaload, 1) := by decide +kernel
theorem dX12_findFar_62 : decode cX12_findFar 62 = .ok (.istore 5, 2) := by decide +kernel
theorem dX12_findFar_64 : decode cX12_findFar 64 = .ok (.aload_n 0, 1) := by decide +kernel
theorem dX12_findFar_65 : decode cX12_findFar 65 = .ok (.getfield 9, 3) := by decide +kernel
theorem dX12_findFar_68 : decode cX12_findFar 68 = .ok (.iload 4, 2) := by decide +kernel
theorem dX12_findFar_70 : decode cX12_findFar 70 = .ok (.invokestatic 99, 3) := by decide +kernel
theorem dX12_findFar_73 : decode cX12_findFar 73 = .ok (.iconst 1, 1) := by decide +kernel
theorem dX12_findFar_74 : decode cX12_findFar 74 = .ok (.iadd, 1) := by decide +kernel
theorem dX12_findFar_75 : decode cX12_findFar 75 = .ok (.iaload, 1) := by decide +kernel
theorem dX12_findFar_76 : decode cX12_findFar 76 = .ok (.istore 6, 2) := by decide +kernel
theorem dX12_findFar_78 : decode cX12_findFar 78 = .ok (.aload_n 0, 1) := by decide +kernel
theorem dX12_findFar_79 : decode cX12_findFar 79 = .ok (.getfield 9, 3) := by decide +kernel
theorem dX12_findFar_82 : decode cX12_findFar 82 = .ok (.iload 4, 2) := by decide +kernel
theorem dX12_findFar_84 : decode cX12_findFar 84 = .ok (.invokestatic 99, 3) := by decide +kernel
theorem dX12_findFar_87 : decode cX12_findFar 87 = .ok (.iconst 2, 1) := by decide +kernel
theorem dX12_findFar_88 : decode cX12_findFar 88 = .ok (.iadd, 1) := by decide +kernel
theorem dX12_findFar_89 : decode cX12_findFar 89 = .ok (.iaload, 1) := by decide +kernel
theorem dX12_findFar_90 : decode cX12_findFar 90 = .ok (.istore 7, 2) := by decide +kernel
theorem dX12_findFar_92 : decode cX12_findFar 92 = .ok (.iload 5, 2) := by decide +kernel
theorem dX12_findFar_94 : decode cX12_findFar 94 = .ok (.iconst 5, 1) := by decide +kernel
theorem dX12_findFar_95 : decode cX12_findFar 95 = .ok (.if_icmp .eq 75, 3) := by decide +kernel
theorem dX12_findFar_98 : decode cX12_findFar 98 = .ok (.iload 5, 2) := by decide +kernel
theorem dX12_findFar_100 : decode cX12_findFar 100 = .ok (.iconst 3, 1) := by decide +kernel
theorem dX12_findFar_101 : decode cX12_findFar 101 = .ok (.if_icmp .ne 7, 3) := by decide +kernel
theorem dX12_findFar_104 : decode cX12_findFar 104 = .ok (.iload_n 2, 1) := by decide +kernel
theorem dX12_findFar_105 : decode cX12_findFar 105 = .ok (.ifCond .eq 65, 3) := by decide +kernel
theorem dX12_findFar_32 : decode cX12_findFar 32 = .ok (.iload_n 3, 1) := by decide +kernel
theorem dX12_findFar_33 : decode cX12_findFar 33 = .ok (.ifCond .eq 146, 3) := by decide +kernel
theorem dX12_findFar_179 : decode cX12_findFar 179 = .ok (.return_, 1) := by decide +kernel
theorem dX12_findFar_36 : decode cX12_findFar 36 = .ok (.iconst 0, 1) := by decide +kernel
theorem dX12_findFar_37 : decode cX12_findFar 37 = .ok (.istore_n 3, 1) := by decide +kernel
theorem dX12_findFar_38 : decode cX12_findFar 38 = .ok (.iconst 0, 1) := by decide +kernel
theorem dX12_findFar_39 : decode cX12_findFar 39 = .ok (.istore 4, 2) := by decide +kernel
theorem dX12_findFar_2 : decode cX12_findFar 2 = .ok (.iload_n 3, 1) := by decide +kernel
theorem dX12_findFar_3 : decode cX12_findFar 3 = .ok (.bipush 16, 2) := by decide +kernel
theorem dX12_findFar_5 : decode cX12_findFar 5 = .ok (.if_icmp .ge 25, 3) := by decide +kernel
theorem dX12_findFar_30 : decode cX12_findFar 30 = .ok (.iconst 1, 1) := by decide +kernel
theorem dX12_findFar_31 : decode cX12_findFar 31 = .ok (.istore_n 3, 1) := by decide +kernel
theorem dX12_findFar_8 : decode cX12_findFar 8 = .ok (.aload_n 0, 1) := by decide +kernel
theorem dX12_findFar_9 : decode cX12_findFar 9 = .ok (.getfield 22, 3) := by decide +kernel
theorem dX12_findFar_12 : decode cX12_findFar 12 = .ok (.iload_n 3, 1) := by decide +kernel
theorem dX12_findFar_13 : decode cX12_findFar 13 = .ok (.iload_n 3, 1) := by decide +kernel
theorem dX12_findFar_14 : decode cX12_findFar 14 = .ok (.iload_n 1, 1) := by decide +kernel
theorem dX12_findFar_15 : decode cX12_findFar 15 = .ok (.if_icmp .ne 7, 3) := by decide +kernel
theorem dX12_findFar_18 : decode cX12_findFar 18 = .ok (.iconst 0, 1) := by decide +kernel
theorem dX12_findFar_19 : decode cX12_findFar 19 = .ok (.goto 4, 3) := by decide +kernel
theorem dX12_findFar_22 : decode cX12_findFar 22 = .ok (.iconst (-1), 1) := by decide +kernel
theorem dX12_findFar_0 : decode cX12_findFar 0 = .ok (.iconst 0, 1) := by decide +kernel
theorem dX12_findFar_1 : decode cX12_findFar 1 = .ok (.istore_n 3, 1) := by decide +kernel
def D_X12_findFar_23 (N : Nat) (k2 : mh_H → Nat → Int32 → Int32 → Int32 → Option mh_H) (h : mh_H) (l0 : Nat) (l1 : Int32) (l2 : Int32) (l3 : Int32) (s0 : Nat) (s1 : Int32) (s2 : Int32) : Option mh_H :=
  (uI h s0 s1 s2).bind fun h1 =>
  k2 h1 l0 l1 l2 (l3 + Int32.ofInt (1))
set_option maxHeartbeats 4000000 in
set_option maxRecDepth 100000 in
theorem T_X12_findFar_23 {P : mh_E → Prop} {N d : Nat} (hd : 4 ≤ d) {z : mh_H} {k2 : mh_H → Nat → Int32 → Int32 → Int32 → Option mh_H} (hk2 : ∀ (h : mh_H) (l0 : Nat) (l1 : Int32) (l2 : Int32) (l3 : Int32), k2 h l0 l1 l2 l3 = some z → mh_go P d mX12_findFar 2 [some (.ref l0), some (.int l1), some (.int l2), some (.int l3), none, none, none, none, none] [] h none z) {h : mh_H} {l0 : Nat} {l1 : Int32} {l2 : Int32} {l3 : Int32} {s0 : Nat} {s1 : Int32} {s2 : Int32} (hq : D_X12_findFar_23 N k2 h l0 l1 l2 l3 s0 s1 s2 = some z) : mh_go P d mX12_findFar 23 [some (.ref l0), some (.int l1), some (.int l2), some (.int l3), none, none, none, none, none] [.int s2, .int s1, .ref s0] h none z := by
  unfold D_X12_findFar_23 at hq
  refine bd_iast (pc := 23) hq dX12_findFar_23 (fun h1 hq => ?_)
  refine st_iinc (pc := 24) (lv' := [some (.ref l0), some (.int l1), some (.int l2), some (.int (l3 + Int32.ofInt (1))), none, none, none, none, none]) dX12_findFar_24 rfl rfl (by decide) rfl ?_
  refine st_goto (pc := 27) (tgt := 2) dX12_findFar_27 (by decide) ?_
  exact hk2 _ _ _ _ _ hq
def D_X12_findFar_170 (N : Nat) (k32 : mh_H → Nat → Int32 → Int32 → Option mh_H) (k41 : mh_H → Nat → Int32 → Int32 → Int32 → Option mh_H) (h : mh_H) (l0 : Nat) (l2 : Int32) (l3 : Int32) (l4 : Int32) : Option mh_H :=
  k41 h l0 l2 l3 (l4 + Int32.ofInt (1))
set_option maxHeartbeats 4000000 in
set_option maxRecDepth 100000 in
theorem T_X12_findFar_170 {P : mh_E → Prop} {N d : Nat} (hd : 4 ≤ d) {z : mh_H} {k32 : mh_H → Nat → Int32 → Int32 → Option mh_H} (hk32 : ∀ (h : mh_H) (l0 : Nat) (l2 : Int32) (l3 : Int32), k32 h l0 l2 l3 = some z → mh_go P d mX12_findFar 32 [some (.ref l0), none, some (.int l2), some (.int l3), none, none, none, none, none] [] h none z) {k41 : mh_H → Nat → Int32 → Int32 → Int32 → Option mh_H} (hk41 : ∀ (h : mh_H) (l0 : Nat) (l2 : Int32) (l3 : Int32) (l4 : Int32), k41 h l0 l2 l3 l4 = some z → mh_go P d mX12_findFar 41 [some (.ref l0), none, some (.int l2), some (.int l3), some (.int l4), none, none, none, none] [] h none z) {h : mh_H} {l0 : Nat} {l2 : Int32} {l3 : Int32} {l4 : Int32} (hq : D_X12_findFar_170 N k32 k41 h l0 l2 l3 l4 = some z) : mh_go P d mX12_findFar 170 [some (.ref l0), none, some (.int l2), some (.int l3), some (.int l4), none, none, none, none] [] h none z := by
  unfold D_X12_findFar_170 at hq
  refine st_iinc (pc := 170) (lv' := [some (.ref l0), none, some (.int l2), some (.int l3), some (.int (l4 + Int32.ofInt (1))), none, none, none, none]) dX12_findFar_170 rfl rfl (by decide) rfl ?_
  refine st_goto (pc := 173) (tgt := 41) dX12_findFar_173 (by decide) ?_
  exact hk41 _ _ _ _ _ hq
def D_X12_findFar_159 (N : Nat) (k32 : mh_H → Nat → Int32 → Int32 → Option mh_H) (k41 : mh_H → Nat → Int32 → Int32 → Int32 → Option mh_H) (h : mh_H) (l0 : Nat) (l2 : Int32) (l4 : Int32) (l7 : Int32) (l8 : Int32) : Option mh_H :=
  (gR h 12 l0 5).bind fun v1 =>
  (uI h v1 l7 l8).bind fun h2 =>
  D_X12_findFar_170 N k32 k41 h2 l0 l2 (1 : Int32) l4
set_option maxHeartbeats 4000000 in
set_option maxRecDepth 100000 in
theorem T_X12_findFar_159 {P : mh_E → Prop} {N d : Nat} (hd : 4 ≤ d) {z : mh_H} {k32 : mh_H → Nat → Int32 → Int32 → Option mh_H} (hk32 : ∀ (h : mh_H) (l0 : Nat) (l2 : Int32) (l3 : Int32), k32 h l0 l2 l3 = some z → mh_go P d mX12_findFar 32 [some (.ref l0), none, some (.int l2), some (.int l3), none, none, none, none, none] [] h none z) {k41 : mh_H → Nat → Int32 → Int32 → Int32 → Option mh_H} (hk41 : ∀ (h : mh_H) (l0 : Nat) (l2 : Int32) (l3 : Int32) (l4 : Int32), k41 h l0 l2 l3 l4 = some z → mh_go P d mX12_findFar 41 [some (.ref l0), none, some (.int l2), some (.int l3), some (.int l4), none, none, none, none] [] h none z) {h : mh_H} {l0 : Nat} {l2 : Int32} {l4 : Int32} {l7 : Int32} {l8 : Int32} (hq : D_X12_findFar_159 N k32 k41 h l0 l2 l4 l7 l8 = some z) : mh_go P d mX12_findFar 159 [some (.ref l0), none, some (.int l2), none, some (.int l4), none, none, some (.int l7), some (.int l8)] [] h none z := by
  unfold D_X12_findFar_159 at hq
  refine st_aload_n (pc := 159) dX12_findFar_159 rfl ?_
  refine bd_getr (pc := 160) hq dX12_findFar_160 fl_12_22_12 rfl (fun v1 hq => ?_)
  refine st_iload (pc := 163) dX12_findFar_163 rfl ?_
  refine st_iload (pc := 165) dX12_findFar_165 rfl ?_
  refine bd_iast (pc := 167) hq dX12_findFar_167 (fun h2 hq => ?_)
  refine st_iconst (pc := 168) (v := (1 : Int32)) dX12_findFar_168 rfl ?_
  refine st_istore_n (pc := 169) (lv' := [some (.ref l0), none, some (.int l2), some (.int (1 : Int32)), some (.int l4), none, none, some (.int l7), some (.int l8)]) dX12_findFar_169 rfl (by decide) rfl ?_
  refine st_lesS (lv' := [some (.ref l0), none, some (.int l2), some (.int (1 : Int32)), some (.int l4), none, none, none, none]) ⟨Or.inr rfl, Or.inr rfl, Or.inr rfl, Or.inr rfl, Or.inr rfl, Or.inr rfl, Or.inr rfl, Or.inl rfl, Or.inl rfl, trivial⟩ ?_
  exact T_X12_findFar_170 hd hk32 hk41 hq
def D_X12_findFar_108 (N : Nat) (k32 : mh_H → Nat → Int32 → Int32 → Option mh_H) (k41 : mh_H → Nat → Int32 → Int32 → Int32 → Option mh_H) (h : mh_H) (l0 : Nat) (l2 : Int32) (l3 : Int32) (l4 : Int32) (l6 : Int32) (l7 : Int32) : Option mh_H :=
  (gR h 12 l0 5).bind fun v1 =>
  (aI h v1 l6).bind fun v2 =>
  if 0 ≤ v2 then ((gR h 12 l0 5).bind fun v3 =>
  (aI h v3 l6).bind fun v4 =>
  kO h 12 l0 <|
  (D_X12_takes N h l0 l4).bind fun q5 =>
  (gR q5.2 12 l0 5).bind fun v6 =>
  (aI q5.2 v6 l7).bind fun v7 =>
  if v7 < 0 then (D_X12_findFar_159 N k32 k41 q5.2 l0 l2 l4 l7 (v4 + q5.1))
  else ((gR q5.2 12 l0 5).bind fun v8 =>
  (aI q5.2 v8 l7).bind fun v9 =>
  if v9 ≤ (v4 + q5.1) then (D_X12_findFar_170 N k32 k41 q5.2 l0 l2 l3 l4)
  else (D_X12_findFar_159 N k32 k41 q5.2 l0 l2 l4 l7 (v4 + q5.1))))
  else (D_X12_findFar_170 N k32 k41 h l0 l2 l3 l4)
set_option maxHeartbeats 4000000 in
set_option maxRecDepth 100000 in
theorem T_X12_findFar_108 {P : mh_E → Prop} {N d : Nat} (hd : 4 ≤ d) {z : mh_H} {k32 : mh_H → Nat → Int32 → Int32 → Option mh_H} (hk32 : ∀ (h : mh_H) (l0 : Nat) (l2 : Int32) (l3 : Int32), k32 h l0 l2 l3 = some z → mh_go P d mX12_findFar 32 [some (.ref l0), none, some (.int l2), some (.int l3), none, none, none, none, none] [] h none z) {k41 : mh_H → Nat → Int32 → Int32 → Int32 → Option mh_H} (hk41 : ∀ (h : mh_H) (l0 : Nat) (l2 : Int32) (l3 : Int32) (l4 : Int32), k41 h l0 l2 l3 l4 = some z → mh_go P d mX12_findFar 41 [some (.ref l0), none, some (.int l2), some (.int l3), some (.int l4), none, none, none, none] [] h none z) {h : mh_H} {l0 : Nat} {l2 : Int32} {l3 : Int32} {l4 : Int32} {l6 : Int32} {l7 : Int32} (hq : D_X12_findFar_108 N k32 k41 h l0 l2 l3 l4 l6 l7 = some z) : mh_go P d mX12_findFar 108 [some (.ref l0), none, some (.int l2), some (.int l3), some (.int l4), none, some (.int l6), some (.int l7), none] [] h none z := by
  unfold D_X12_findFar_108 at hq
  refine st_aload_n (pc := 108) dX12_findFar_108 rfl ?_
  refine bd_getr (pc := 109) hq dX12_findFar_109 fl_12_22_12 rfl (fun v1 hq => ?_)
  refine st_iload (pc := 112) dX12_findFar_112 rfl ?_
  refine bd_iald (pc := 114) hq dX12_findFar_114 (fun v2 hq => ?_)
  refine bd_if_ge (pc := 115) (tgt := 121) hq dX12_findFar_115 (by decide) (fun _ hq => ?_) (fun _ hq => ?_)
  ·
    refine st_aload_n (pc := 121) dX12_findFar_121 rfl ?_
    refine bd_getr (pc := 122) hq dX12_findFar_122 fl_12_22_12 rfl (fun v3 hq => ?_)
    refine st_iload (pc := 125) dX12_findFar_125 rfl ?_
    refine bd_iald (pc := 127) hq dX12_findFar_127 (fun v4 hq => ?_)
    refine st_aload_n (pc := 128) dX12_findFar_128 rfl ?_
    refine st_iload (pc := 129) dX12_findFar_129 rfl ?_
    obtain ⟨⟨hbq5, hkq5⟩, hq⟩ := mh_oi hq
    obtain ⟨q5, e5, hq⟩ := mh_ob hq
    refine st_invV (pc := 131) (ci := 12) (vs := [.int l4]) (rest := [.int v4]) (st2 := [.int q5.1, .int v4]) dX12_findFar_131 okX12_takes (by decide) hkq5 hbq5 wd_1299 wd_1301 wp_40 pdX12_takes rfl rfl rfl rfl (Nat.le_trans (by decide) hd) (Nat.le_of_ble_eq_true rfl) (T_X12_takes (Nat.le_refl _) e5) rfl ?_
    refine st_iadd (pc := 134) dX12_findFar_134 ?_
    refine st_istore (pc := 135) (lv' := [some (.ref l0), none, some (.int l2), some (.int l3), some (.int l4), none, some (.int l6), some (.int l7), some (.int (v4 + q5.1))]) dX12_findFar_135 rfl (by decide) rfl ?_
    refine st_aload_n (pc := 137) dX12_findFar_137 rfl ?_
    refine bd_getr (pc := 138) hq dX12_findFar_138 fl_12_22_12 rfl (fun v6 hq => ?_)
    refine st_iload (pc := 141) dX12_findFar_141 rfl ?_
    refine bd_iald (pc := 143) hq dX12_findFar_143 (fun v7 hq => ?_)
    refine bd_if_lt (pc := 144) (tgt := 159) hq dX12_findFar_144 (by decide) (fun _ hq => ?_) (fun _ hq => ?_)
    ·
      refine st_lesS (lv' := [some (.ref l0), none, some (.int l2), none, some (.int l4), none, none, some (.int l7), some (.int (v4 + q5.1))]) ⟨Or.inr rfl, Or.inr rfl, Or.inr rfl, Or.inl rfl, Or.inr rfl, Or.inr rfl, Or.inl rfl, Or.inr rfl, Or.inr rfl, trivial⟩ ?_
      exact T_X12_findFar_159 hd hk32 hk41 hq
    ·
      refine st_iload (pc := 147) dX12_findFar_147 rfl ?_
      refine st_aload_n (pc := 149) dX12_findFar_149 rfl ?_
      refine bd_getr (pc := 150) hq dX12_findFar_150 fl_12_22_12 rfl (fun v8 hq => ?_)
      refine st_iload (pc := 153) dX12_findFar_153 rfl ?_
      refine bd_iald (pc := 155) hq dX12_findFar_155 (fun v9 hq => ?_)
      refine bd_icmp_ge (pc := 156) (tgt := 170) hq dX12_findFar_156 (by decide) (fun _ hq => ?_) (fun _ hq => ?_)
      ·
        refine st_lesS (lv' := [some (.ref l0), none, some (.int l2), some (.int l3), some (.int l4), none, none, none, none]) ⟨Or.inr rfl, Or.inr rfl, Or.inr rfl, Or.inr rfl, Or.inr rfl, Or.inr rfl, Or.inl rfl, Or.inl rfl, Or.inl rfl, trivial⟩ ?_
        exact T_X12_findFar_170 hd hk32 hk41 hq
      ·
        refine st_lesS (lv' := [some (.ref l0), none, some (.int l2), none, some (.int l4), none, none, some (.int l7), some (.int (v4 + q5.1))]) ⟨Or.inr rfl, Or.inr rfl, Or.inr rfl, Or.inl rfl, Or.inr rfl, Or.inr rfl, Or.inl rfl, Or.inr rfl, Or.inr rfl, trivial⟩ ?_
        exact T_X12_findFar_159 hd hk32 hk41 hq
  ·
    refine st_goto (pc := 118) (tgt := 170) dX12_findFar_118 (by decide) ?_
    refine st_lesS (lv' := [some (.ref l0), none, some (.int l2), some (.int l3), some (.int l4), none, none, none, none]) ⟨Or.inr rfl, Or.inr rfl, Or.inr rfl, Or.inr rfl, Or.inr rfl, Or.inr rfl, Or.inl rfl, Or.inl rfl, Or.inr rfl, trivial⟩ ?_
    exact T_X12_findFar_170 hd hk32 hk41 hq
def D_X12_findFar_41 (N : Nat) (k32 : mh_H → Nat → Int32 → Int32 → Option mh_H) : Nat → mh_H → Nat → Int32 → Int32 → Int32 → Option mh_H
  | 0, _, _, _, _, _ => none
  | F + 1, h, l0, l2, l3, l4 =>
    (gR h 12 l0 0).bind fun v1 =>
    (aI h v1 (2 : Int32)).bind fun v2 =>
    if v2 ≤ l4 then (k32 h l0 l2 l3)
    else ((gR h 12 l0 0).bind fun v3 =>
    (D_X12_way N h l4).bind fun q4 =>
    (aI q4.2 v3 q4.1).bind fun v5 =>
    (gR q4.2 12 l0 0).bind fun v6 =>
    (D_X12_way N q4.2 l4).bind fun q7 =>
    (aI q7.2 v6 (q7.1 + (1 : Int32))).bind fun v8 =>
    (gR q7.2 12 l0 0).bind fun v9 =>
    (D_X12_way N q7.2 l4).bind fun q10 =>
    (aI q10.2 v9 (q10.1 + (2 : Int32))).bind fun v11 =>
    if v5 = (5 : Int32) then (D_X12_findFar_170 N k32 (D_X12_findFar_41 N k32 F) q10.2 l0 l2 l3 l4)
    else (if v5 = (3 : Int32) then (if l2 = 0 then (D_X12_findFar_170 N k32 (D_X12_findFar_41 N k32 F) q10.2 l0 l2 l3 l4)
    else (D_X12_findFar_108 N k32 (D_X12_findFar_41 N k32 F) q10.2 l0 l2 l3 l4 v8 v11))
    else (D_X12_findFar_108 N k32 (D_X12_findFar_41 N k32 F) q10.2 l0 l2 l3 l4 v8 v11)))
set_option maxHeartbeats 4000000 in
set_option maxRecDepth 100000 in
theorem T_X12_findFar_41 {P : mh_E → Prop} {N d : Nat} (hd : 4 ≤ d) {z : mh_H} {k32 : mh_H → Nat → Int32 → Int32 → Option mh_H} (hk32 : ∀ (h : mh_H) (l0 : Nat) (l2 : Int32) (l3 : Int32), k32 h l0 l2 l3 = some z → mh_go P d mX12_findFar 32 [some (.ref l0), none, some (.int l2), some (.int l3), none, none, none, none, none] [] h none z) : ∀ (F : Nat) (h : mh_H) (l0 : Nat) (l2 : Int32) (l3 : Int32) (l4 : Int32), D_X12_findFar_41 N k32 F h l0 l2 l3 l4 = some z → mh_go P d mX12_findFar 41 [some (.ref l0), none, some (.int l2), some (.int l3), some (.int l4), none, none, none, none] [] h none z := by
  intro F
  induction F with
  | zero => intro h l0 l2 l3 l4 hq; rw [D_X12_findFar_41] at hq; cases hq
  | succ F ih =>
    intro h l0 l2 l3 l4 hq
    rw [D_X12_findFar_41] at hq
    refine st_iload (pc := 41) dX12_findFar_41 rfl ?_
    refine st_aload_n (pc := 43) dX12_findFar_43 rfl ?_
    refine bd_getr (pc := 44) hq dX12_findFar_44 fl_12_9_12 rfl (fun v1 hq => ?_)
    refine st_iconst (pc := 47) (v := (2 : Int32)) dX12_findFar_47 rfl ?_
    refine bd_iald (pc := 48) hq dX12_findFar_48 (fun v2 hq => ?_)
    refine bd_icmp_ge (pc := 49) (tgt := 176) hq dX12_findFar_49 (by decide) (fun _ hq => ?_) (fun _ hq => ?_)
    ·
      refine st_goto (pc := 176) (tgt := 32) dX12_findFar_176 (by decide) ?_
      refine st_lesS (lv' := [some (.ref l0), none, some (.int l2), some (.int l3), none, none, none, none, none]) ⟨Or.inr rfl, Or.inr rfl, Or.inr rfl, Or.inr rfl, Or.inl rfl, Or.inr rfl, Or.inr rfl, Or.inr rfl, Or.inr rfl, trivial⟩ ?_
      exact hk32 _ _ _ _ hq
    ·
      refine st_aload_n (pc := 52) dX12_findFar_52 rfl ?_
      refine bd_getr (pc := 53) hq dX12_findFar_53 fl_12_9_12 rfl (fun v3 hq => ?_)
      refine st_iload (pc := 56) dX12_findFar_56 rfl ?_
      obtain ⟨q4, e4, hq⟩ := mh_ob hq
      refine st_invS (pc := 58) (Y := mX12_way) (vs := [.int l4]) (rest := [.ref v3]) (st2 := [.int q4.1, .ref v3]) dX12_findFar_58 okX12_way wd_1282 wd_1283 pdX12_way rfl rfl rfl rfl (Nat.le_trans (by decide) hd) (Nat.le_of_ble_eq_true rfl) (T_X12_way (Nat.le_refl _) e4) rfl ?_
      refine bd_iald (pc := 61) hq dX12_findFar_61 (fun v5 hq => ?_)
      refine st_istore (pc := 62) (lv' := [some (.ref l0), none, some (.int l2), some (.int l3), some (.int l4), some (.int v5), none, none, none]) dX12_findFar_62 rfl (by decide) rfl ?_
      refine st_aload_n (pc := 64) dX12_findFar_64 rfl ?_
      refine bd_getr (pc := 65) hq dX12_findFar_65 fl_12_9_12 rfl (fun v6 hq => ?_)
      refine st_iload (pc := 68) dX12_findFar_68 rfl ?_
      obtain ⟨q7, e7, hq⟩ := mh_ob hq
      refine st_invS (pc := 70) (Y := mX12_way) (vs := [.int l4]) (rest := [.ref v6]) (st2 := [.int q7.1, .ref v6]) dX12_findFar_70 okX12_way wd_1282 wd_1283 pdX12_way rfl rfl rfl rfl (Nat.le_trans (by decide) hd) (Nat.le_of_ble_eq_true rfl) (T_X12_way (Nat.le_refl _) e7) rfl ?_
      refine st_iconst (pc := 73) (v := (1 : Int32)) dX12_findFar_73 rfl ?_
      refine st_iadd (pc := 74) dX12_findFar_74 ?_
      refine bd_iald (pc := 75) hq dX12_findFar_75 (fun v8 hq => ?_)
      refine st_istore (pc := 76) (lv' := [some (.ref l0), none, some (.int l2), some (.int l3), some (.int l4), some (.int v5), some (.int v8), none, none]) dX12_findFar_76 rfl (by decide) rfl ?_
      refine st_aload_n (pc := 78) dX12_findFar_78 rfl ?_
      refine bd_getr (pc := 79) hq dX12_findFar_79 fl_12_9_12 rfl (fun v9 hq => ?_)
      refine st_iload (pc := 82) dX12_findFar_82 rfl ?_
      obtain ⟨q10, e10, hq⟩ := mh_ob hq
      refine st_invS (pc := 84) (Y := mX12_way) (vs := [.int l4]) (rest := [.ref v9]) (st2 := [.int q10.1, .ref v9]) dX12_findFar_84 okX12_way wd_1282 wd_1283 pdX12_way rfl rfl rfl rfl (Nat.le_trans (by decide) hd) (Nat.le_of_ble_eq_true rfl) (T_X12_way (Nat.le_refl _) e10) rfl ?_
      refine st_iconst (pc := 87) (v := (2 : Int32)) dX12_findFar_87 rfl ?_
      refine st_iadd (pc := 88) dX12_findFar_88 ?_
      refine bd_iald (pc := 89) hq dX12_findFar_89 (fun v11 hq => ?_)
      refine st_istore (pc := 90) (lv' := [some (.ref l0), none, some (.int l2), some (.int l3), some (.int l4), some (.int v5), some (.int v8), some (.int v11), none]) dX12_findFar_90 rfl (by decide) rfl ?_
      refine st_iload (pc := 92) dX12_findFar_92 rfl ?_
      refine st_iconst (pc := 94) (v := (5 : Int32)) dX12_findFar_94 rfl ?_
      refine bd_icmp_eq (pc := 95) (tgt := 170) hq dX12_findFar_95 (by decide) (fun _ hq => ?_) (fun _ hq => ?_)
      ·
        refine st_lesS (lv' := [some (.ref l0), none, some (.int l2), some (.int l3), some (.int l4), none, none, none, none]) ⟨Or.inr rfl, Or.inr rfl, Or.inr rfl, Or.inr rfl, Or.inr rfl, Or.inl rfl, Or.inl rfl, Or.inl rfl, Or.inr rfl, trivial⟩ ?_
        exact T_X12_findFar_170 hd hk32 ih hq
      ·
        refine st_iload (pc := 98) dX12_findFar_98 rfl ?_
        refine st_iconst (pc := 100) (v := (3 : Int32)) dX12_findFar_100 rfl ?_
        refine bd_icmp_ne (pc := 101) (tgt := 108) hq dX12_findFar_101 (by decide) (fun _ hq => ?_) (fun _ hq => ?_)
        ·
          refine st_iload_n (pc := 104) dX12_findFar_104 rfl ?_
          refine bd_if_eq (pc := 105) (tgt := 170) hq dX12_findFar_105 (by decide) (fun _ hq => ?_) (fun _ hq => ?_)
          ·
            refine st_lesS (lv' := [some (.ref l0), none, some (.int l2), some (.int l3), some (.int l4), none, none, none, none]) ⟨Or.inr rfl, Or.inr rfl, Or.inr rfl, Or.inr rfl, Or.inr rfl, Or.inl rfl, Or.inl rfl, Or.inl rfl, Or.inr rfl, trivial⟩ ?_
            exact T_X12_findFar_170 hd hk32 ih hq
          ·
            refine st_lesS (lv' := [some (.ref l0), none, some (.int l2), some (.int l3), some (.int l4), none, some (.int v8), some (.int v11), none]) ⟨Or.inr rfl, Or.inr rfl, Or.inr rfl, Or.inr rfl, Or.inr rfl, Or.inl rfl, Or.inr rfl, Or.inr rfl, Or.inr rfl, trivial⟩ ?_
            exact T_X12_findFar_108 hd hk32 ih hq
        ·
          refine st_lesS (lv' := [some (.ref l0), none, some (.int l2), some (.int l3), some (.int l4), none, some (.int v8), some (.int v11), none]) ⟨Or.inr rfl, Or.inr rfl, Or.inr rfl, Or.inr rfl, Or.inr rfl, Or.inl rfl, Or.inr rfl, Or.inr rfl, Or.inr rfl, trivial⟩ ?_
          exact T_X12_findFar_108 hd hk32 ih hq
def D_X12_findFar_32 (N : Nat) : Nat → mh_H → Nat → Int32 → Int32 → Option mh_H
  | 0, _, _, _, _ => none
  | F + 1, h, l0, l2, l3 =>
    if l3 = 0 then (some h)
    else (D_X12_findFar_41 N (D_X12_findFar_32 N F) N h l0 l2 (0 : Int32) (0 : Int32))
set_option maxHeartbeats 4000000 in
set_option maxRecDepth 100000 in
theorem T_X12_findFar_32 {P : mh_E → Prop} {N d : Nat} (hd : 4 ≤ d) {z : mh_H} : ∀ (F : Nat) (h : mh_H) (l0 : Nat) (l2 : Int32) (l3 : Int32), D_X12_findFar_32 N F h l0 l2 l3 = some z → mh_go P d mX12_findFar 32 [some (.ref l0), none, some (.int l2), some (.int l3), none, none, none, none, none] [] h none z := by
  intro F
  induction F with
  | zero => intro h l0 l2 l3 hq; rw [D_X12_findFar_32] at hq; cases hq
  | succ F ih =>
    intro h l0 l2 l3 hq
    rw [D_X12_findFar_32] at hq
    refine st_iload_n (pc := 32) dX12_findFar_32 rfl ?_
    refine bd_if_eq (pc := 33) (tgt := 179) hq dX12_findFar_33 (by decide) (fun _ hq => ?_) (fun _ hq => ?_)
    ·
      exact bd_vret (pc := 179) hq dX12_findFar_179 rfl
    ·
      refine st_iconst (pc := 36) (v := (0 : Int32)) dX12_findFar_36 rfl ?_
      refine st_istore_n (pc := 37) (lv' := [some (.ref l0), none, some (.int l2), some (.int (0 : Int32)), none, none, none, none, none]) dX12_findFar_37 rfl (by decide) rfl ?_
      refine st_iconst (pc := 38) (v := (0 : Int32)) dX12_findFar_38 rfl ?_
      refine st_istore (pc := 39) (lv' := [some (.ref l0), none, some (.int l2), some (.int (0 : Int32)), some (.int (0 : Int32)), none, none, none, none]) dX12_findFar_39 rfl (by decide) rfl ?_
      exact T_X12_findFar_41 hd ih N _ _ _ _ _ hq
def D_X12_findFar_2 (N : Nat) : Nat → mh_H → Nat → Int32 → Int32 → Int32 → Option mh_H
  | 0, _, _, _, _, _ => none
  | F + 1, h, l0, l1, l2, l3 =>
    if (16 : Int32) ≤ l3 then (D_X12_findFar_32 N N h l0 l2 (1 : Int32))
    else ((gR h 12 l0 5).bind fun v1 =>
    if l3 = l1 then (D_X12_findFar_23 N (D_X12_findFar_2 N F) h l0 l1 l2 l3 v1 l3 (0 : Int32))
    else (D_X12_findFar_23 N (D_X12_findFar_2 N F) h l0 l1 l2 l3 v1 l3 (-1 : Int32)))
set_option maxHeartbeats 4000000 in
set_option maxRecDepth 100000 in
theorem T_X12_findFar_2 {P : mh_E → Prop} {N d : Nat} (hd : 4 ≤ d) {z : mh_H} : ∀ (F : Nat) (h : mh_H) (l0 : Nat) (l1 : Int32) (l2 : Int32) (l3 : Int32), D_X12_findFar_2 N F h l0 l1 l2 l3 = some z → mh_go P d mX12_findFar 2 [some (.ref l0), some (.int l1), some (.int l2), some (.int l3), none, none, none, none, none] [] h none z := by
  intro F
  induction F with
  | zero => intro h l0 l1 l2 l3 hq; rw [D_X12_findFar_2] at hq; cases hq
  | succ F ih =>
    intro h l0 l1 l2 l3 hq
    rw [D_X12_findFar_2] at hq
    refine st_iload_n (pc := 2) dX12_findFar_2 rfl ?_
    refine st_bipush (pc := 3) (v := (16 : Int32)) dX12_findFar_3 (by decide) ?_
    refine bd_icmp_ge (pc := 5) (tgt := 30) hq dX12_findFar_5 (by decide) (fun _ hq => ?_) (fun _ hq => ?_)
    ·
      refine st_iconst (pc := 30) (v := (1 : Int32)) dX12_findFar_30 rfl ?_
      refine st_istore_n (pc := 31) (lv' := [some (.ref l0), some (.int l1), some (.int l2), some (.int (1 : Int32)), none, none, none, none, none]) dX12_findFar_31 rfl (by decide) rfl ?_
      refine st_lesS (lv' := [some (.ref l0), none, some (.int l2), some (.int (1 : Int32)), none, none, none, none, none]) ⟨Or.inr rfl, Or.inl rfl, Or.inr rfl, Or.inr rfl, Or.inr rfl, Or.inr rfl, Or.inr rfl, Or.inr rfl, Or.inr rfl, trivial⟩ ?_
      exact T_X12_findFar_32 hd N _ _ _ _ hq
    ·
      refine st_aload_n (pc := 8) dX12_findFar_8 rfl ?_
      refine bd_getr (pc := 9) hq dX12_findFar_9 fl_12_22_12 rfl (fun v1 hq => ?_)
      refine st_iload_n (pc := 12) dX12_findFar_12 rfl ?_
      refine st_iload_n (pc := 13) dX12_findFar_13 rfl ?_
      refine st_iload_n (pc := 14) dX12_findFar_14 rfl ?_
      refine bd_icmp_ne (pc := 15) (tgt := 22) hq dX12_findFar_15 (by decide) (fun _ hq => ?_) (fun _ hq => ?_)
      ·
        refine st_iconst (pc := 18) (v := (0 : Int32)) dX12_findFar_18 rfl ?_
        refine st_goto (pc := 19) (tgt := 23) dX12_findFar_19 (by decide) ?_
        exact T_X12_findFar_23 hd ih hq
      ·
        refine st_iconst (pc := 22) (v := (-1 : Int32)) dX12_findFar_22 rfl ?_
        exact T_X12_findFar_23 hd ih hq
def D_X12_findFar (N : Nat) (h : mh_H) (l0 : Nat) (l1 : Int32) (l2 : Int32) : Option mh_H :=
  D_X12_findFar_2 N N h l0 l1 l2 (0 : Int32)
set_option maxHeartbeats 4000000 in
set_option maxRecDepth 100000 in
theorem T_X12_findFar {P : mh_E → Prop} {N d : Nat} (hd : 4 ≤ d) {z : mh_H} {h : mh_H} {l0 : Nat} {l1 : Int32} {l2 : Int32} (hq : D_X12_findFar N h l0 l1 l2 = some z) : mh_go P d mX12_findFar 0 [some (.ref l0), some (.int l1), some (.int l2), none, none, none, none, none, none] [] h none z := by
  unfold D_X12_findFar at hq
  refine st_iconst (pc := 0) (v := (0 : Int32)) dX12_findFar_0 rfl ?_
  refine st_istore_n (pc := 1) (lv' := [some (.ref l0), some (.int l1), some (.int l2), some (.int (0 : Int32)), none, none, none, none, none]) dX12_findFar_1 rfl (by decide) rfl ?_
  exact T_X12_findFar_2 hd N _ _ _ _ _ hq
-- HoleWaterModel.hangs(IZ)I
theorem dX12_hangs_69 : decode cX12_hangs 69 = .ok (.iinc 4 1, 3) := by decide +kernel
theorem dX12_hangs_72 : decode cX12_hangs 72 = .ok (.goto (-53), 3) := by decide +kernel
theorem dX12_hangs_67 : decode cX12_hangs 67 = .ok (.ior, 1) := by decide +kernel
theorem dX12_hangs_68 : decode cX12_hangs 68 = .ok (.istore_n 3, 1) := by decide +kernel
theorem dX12_hangs_19 : decode cX12_hangs 19 = .ok (.iload 4, 2) := by decide +kernel
theorem dX12_hangs_21 : decode cX12_hangs 21 = .ok (.aload_n 0, 1) := by decide +kernel
theorem dX12_hangs_22 : decode cX12_hangs 22 = .ok (.getfield 9, 3) := by decide +kernel
theorem dX12_hangs_25 : decode cX12_hangs 25 = .ok (.iconst 1, 1) := by decide +kernel
theorem dX12_hangs_26 : decode cX12_hangs 26 = .ok (.iaload, 1) := by decide +kernel
theorem dX12_hangs_27 : decode cX12_hangs 27 = .ok (.if_icmp .ge 48, 3) := by decide +kernel
theorem dX12_hangs_75 : decode cX12_hangs 75 = .ok (.iload_n 3, 1) := by decide +kernel
theorem dX12_hangs_76 : decode cX12_hangs 76 = .ok (.ireturn, 1) := by decide +kernel
theorem dX12_hangs_30 : decode cX12_hangs 30 = .ok (.aload_n 0, 1) := by decide +kernel
theorem dX12_hangs_31 : decode cX12_hangs 31 = .ok (.iload 4, 2) := by decide +kernel
theorem dX12_hangs_33 : decode cX12_hangs 33 = .ok (.invokevirtual 96, 3) := by decide +kernel
theorem dX12_hangs_36 : decode cX12_hangs 36 = .ok (.ifCond .ne 6, 3) := by decide +kernel
theorem dX12_hangs_39 : decode cX12_hangs 39 = .ok (.goto 30, 3) := by decide +kernel
theorem dX12_hangs_42 : decode cX12_hangs 42 = .ok (.aload_n 0, 1) := by decide +kernel
theorem dX12_hangs_43 : decode cX12_hangs 43 = .ok (.iload 4, 2) := by decide +kernel
theorem dX12_hangs_45 : decode cX12_hangs 45 = .ok (.iload_n 2, 1) := by decide +kernel
theorem dX12_hangs_46 : decode cX12_hangs 46 = .ok (.invokevirtual 119, 3) := by decide +kernel
theorem dX12_hangs_49 : decode cX12_hangs 49 = .ok (.iload_n 3, 1) := by decide +kernel
theorem dX12_hangs_50 : decode cX12_hangs 50 = .ok (.aload_n 0, 1) := by decide +kernel
theorem dX12_hangs_51 : decode cX12_hangs 51 = .ok (.getfield 22, 3) := by decide +kernel
theorem dX12_hangs_54 : decode cX12_hangs 54 = .ok (.iload_n 1, 1) := by decide +kernel
theorem dX12_hangs_55 : decode cX12_hangs 55 = .ok (.iaload, 1) := by decide +kernel
theorem dX12_hangs_56 : decode cX12_hangs 56 = .ok (.ifCond .lt 10, 3) := by decide +kernel
theorem dX12_hangs_66 : decode cX12_hangs 66 = .ok (.iconst 0, 1) := by decide +kernel
theorem dX12_hangs_59 : decode cX12_hangs 59 = .ok (.iconst 1, 1) := by decide +kernel
theorem dX12_hangs_60 : decode cX12_hangs 60 = .ok (.iload 4, 2) := by decide +kernel
theorem dX12_hangs_62 : decode cX12_hangs 62 = .ok (.ishl, 1) := by decide +kernel
theorem dX12_hangs_63 : decode cX12_hangs 63 = .ok (.goto 4, 3) := by decide +kernel
theorem dX12_hangs_0 : decode cX12_hangs 0 = .ok (.aload_n 0, 1) := by decide +kernel
theorem dX12_hangs_1 : decode cX12_hangs 1 = .ok (.iload_n 1, 1) := by decide +kernel
theorem dX12_hangs_2 : decode cX12_hangs 2 = .ok (.invokevirtual 83, 3) := by decide +kernel
theorem dX12_hangs_5 : decode cX12_hangs 5 = .ok (.ifCond .ne 9, 3) := by decide +kernel
theorem dX12_hangs_8 : decode cX12_hangs 8 = .ok (.aload_n 0, 1) := by decide +kernel
theorem dX12_hangs_9 : decode cX12_hangs 9 = .ok (.iconst 1, 1) := by decide +kernel
theorem dX12_hangs_10 : decode cX12_hangs 10 = .ok (.invokevirtual 80, 3) := by decide +kernel
theorem dX12_hangs_13 : decode cX12_hangs 13 = .ok (.ireturn, 1) := by decide +kernel
theorem dX12_hangs_14 : decode cX12_hangs 14 = .ok (.iconst 0, 1) := by decide +kernel
theorem dX12_hangs_15 : decode cX12_hangs 15 = .ok (.istore_n 3, 1) := by decide +kernel
theorem dX12_hangs_16 : decode cX12_hangs 16 = .ok (.iconst 0, 1) := by decide +kernel
theorem dX12_hangs_17 : decode cX12_hangs 17 = .ok (.istore 4, 2) := by decide +kernel
def D_X12_hangs_69 (N : Nat) (k19 : mh_H → Nat → Int32 → Int32 → Int32 → Int32 → Option (Int32 × mh_H)) (h : mh_H) (l0 : Nat) (l1 : Int32) (l2 : Int32) (l3 : Int32) (l4 : Int32) : Option (Int32 × mh_H) :=
  k19 h l0 l1 l2 l3 (l4 + Int32.ofInt (1))
set_option maxHeartbeats 4000000 in
set_option maxRecDepth 100000 in
theorem T_X12_hangs_69 {P : mh_E → Prop} {N d : Nat} (hd : 5 ≤ d) {z : (Int32 × mh_H)} {k19 : mh_H → Nat → Int32 → Int32 → Int32 → Int32 → Option (Int32 × mh_H)} (hk19 : ∀ (h : mh_H) (l0 : Nat) (l1 : Int32) (l2 : Int32) (l3 : Int32) (l4 : Int32), k19 h l0 l1 l2 l3 l4 = some z → mh_go P d mX12_hangs 19 [some (.ref l0), some (.int l1), some (.int l2), some (.int l3), some (.int l4)] [] h (some (.int z.1)) z.2) {h : mh_H} {l0 : Nat} {l1 : Int32} {l2 : Int32} {l3 : Int32} {l4 : Int32} (hq : D_X12_hangs_69 N k19 h l0 l1 l2 l3 l4 = some z) : mh_go P d mX12_hangs 69 [some (.ref l0), some (.int l1), some (.int l2), some (.int l3), some (.int l4)] [] h (some (.int z.1)) z.2 := by
  unfold D_X12_hangs_69 at hq
  refine st_iinc (pc := 69) (lv' := [some (.ref l0), some (.int l1), some (.int l2), some (.int l3), some (.int (l4 + Int32.ofInt (1)))]) dX12_hangs_69 rfl rfl (by decide) rfl ?_
  refine st_goto (pc := 72) (tgt := 19) dX12_hangs_72 (by decide) ?_
  exact hk19 _ _ _ _ _ _ hq
def D_X12_hangs_67 (N : Nat) (k19 : mh_H → Nat → Int32 → Int32 → Int32 → Int32 → Option (Int32 × mh_H)) (h : mh_H) (l0 : Nat) (l1 : Int32) (l2 : Int32) (l4 : Int32) (s0 : Int32) (s1 : Int32) : Option (Int32 × mh_H) :=
  D_X12_hangs_69 N k19 h l0 l1 l2 (s0 ||| s1) l4
set_option maxHeartbeats 4000000 in
set_option maxRecDepth 100000 in
theorem T_X12_hangs_67 {P : mh_E → Prop} {N d : Nat} (hd : 5 ≤ d) {z : (Int32 × mh_H)} {k19 : mh_H → Nat → Int32 → Int32 → Int32 → Int32 → Option (Int32 × mh_H)} (hk19 : ∀ (h : mh_H) (l0 : Nat) (l1 : Int32) (l2 : Int32) (l3 : Int32) (l4 : Int32), k19 h l0 l1 l2 l3 l4 = some z → mh_go P d mX12_hangs 19 [some (.ref l0), some (.int l1), some (.int l2), some (.int l3), some (.int l4)] [] h (some (.int z.1)) z.2) {h : mh_H} {l0 : Nat} {l1 : Int32} {l2 : Int32} {l4 : Int32} {s0 : Int32} {s1 : Int32} (hq : D_X12_hangs_67 N k19 h l0 l1 l2 l4 s0 s1 = some z) : mh_go P d mX12_hangs 67 [some (.ref l0), some (.int l1), some (.int l2), none, some (.int l4)] [.int s1, .int s0] h (some (.int z.1)) z.2 := by
  unfold D_X12_hangs_67 at hq
  refine st_ior (pc := 67) dX12_hangs_67 ?_
  refine st_istore_n (pc := 68) (lv' := [some (.ref l0), some (.int l1), some (.int l2), some (.int (s0 ||| s1)), some (.int l4)]) dX12_hangs_68 rfl (by decide) rfl ?_
  exact T_X12_hangs_69 hd hk19 hq
def D_X12_hangs_19 (N : Nat) : Nat → mh_H → Nat → Int32 → Int32 → Int32 → Int32 → Option (Int32 × mh_H)
  | 0, _, _, _, _, _, _ => none
  | F + 1, h, l0, l1, l2, l3, l4 =>
    (gR h 12 l0 0).bind fun v1 =>
    (aI h v1 (1 : Int32)).bind fun v2 =>
    if v2 ≤ l4 then (some (l3, h))
    else (kO h 12 l0 <|
    (D_X12_isHole N h l0 l4).bind fun q3 =>
    if q3.1 = 0 then (D_X12_hangs_69 N (D_X12_hangs_19 N F) q3.2 l0 l1 l2 l3 l4)
    else (kO q3.2 12 l0 <|
    (D_X12_findFar N q3.2 l0 l4 l2).bind fun q4 =>
    (gR q4 12 l0 5).bind fun v5 =>
    (aI q4 v5 l1).bind fun v6 =>
    if v6 < 0 then (D_X12_hangs_67 N (D_X12_hangs_19 N F) q4 l0 l1 l2 l4 l3 (0 : Int32))
    else (D_X12_hangs_67 N (D_X12_hangs_19 N F) q4 l0 l1 l2 l4 l3 ((1 : Int32) <<< (l4 &&& 31)))))
set_option maxHeartbeats 4000000 in
set_option maxRecDepth 100000 in
theorem T_X12_hangs_19 {P : mh_E → Prop} {N d : Nat} (hd : 5 ≤ d) {z : (Int32 × mh_H)} : ∀ (F : Nat) (h : mh_H) (l0 : Nat) (l1 : Int32) (l2 : Int32) (l3 : Int32) (l4 : Int32), D_X12_hangs_19 N F h l0 l1 l2 l3 l4 = some z → mh_go P d mX12_hangs 19 [some (.ref l0), some (.int l1), some (.int l2), some (.int l3), some (.int l4)] [] h (some (.int z.1)) z.2 := by
  intro F
  induction F with
  | zero => intro h l0 l1 l2 l3 l4 hq; rw [D_X12_hangs_19] at hq; cases hq
  | succ F ih =>
    intro h l0 l1 l2 l3 l4 hq
    rw [D_X12_hangs_19] at hq
    refine st_iload (pc := 19) dX12_hangs_19 rfl ?_
    refine st_aload_n (pc := 21) dX12_hangs_21 rfl ?_
    refine bd_getr (pc := 22) hq dX12_hangs_22 fl_12_9_12 rfl (fun v1 hq => ?_)
    refine st_iconst (pc := 25) (v := (1 : Int32)) dX12_hangs_25 rfl ?_
    refine bd_iald (pc := 26) hq dX12_hangs_26 (fun v2 hq => ?_)
    refine bd_icmp_ge (pc := 27) (tgt := 75) hq dX12_hangs_27 (by decide) (fun _ hq => ?_) (fun _ hq => ?_)
    ·
      refine st_iload_n (pc := 75) dX12_hangs_75 rfl ?_
      exact bd_iret (pc := 76) hq dX12_hangs_76 rfl
    ·
      refine st_aload_n (pc := 30) dX12_hangs_30 rfl ?_
      refine st_iload (pc := 31) dX12_hangs_31 rfl ?_
      obtain ⟨⟨hbq3, hkq3⟩, hq⟩ := mh_oi hq
      obtain ⟨q3, e3, hq⟩ := mh_ob hq
      refine st_invV (pc := 33) (ci := 12) (vs := [.int l4]) (rest := []) (st2 := [.int q3.1]) dX12_hangs_33 okX12_isHole (by decide) hkq3 hbq3 wd_1278 wd_1280 wp_38 pdX12_isHole rfl rfl rfl rfl (Nat.le_trans (by decide) hd) (Nat.le_of_ble_eq_true rfl) (T_X12_isHole (Nat.le_refl _) e3) rfl ?_
      refine bd_if_ne (pc := 36) (tgt := 42) hq dX12_hangs_36 (by decide) (fun _ hq => ?_) (fun _ hq => ?_)
      ·
        refine st_goto (pc := 39) (tgt := 69) dX12_hangs_39 (by decide) ?_
        exact T_X12_hangs_69 hd ih hq
      ·
        refine st_aload_n (pc := 42) dX12_hangs_42 rfl ?_
        refine st_iload (pc := 43) dX12_hangs_43 rfl ?_
        refine st_iload_n (pc := 45) dX12_hangs_45 rfl ?_
        obtain ⟨⟨hbq4, hkq4⟩, hq⟩ := mh_oi hq
        obtain ⟨q4, e4, hq⟩ := mh_ob hq
        refine st_invV (pc := 46) (ci := 12) (vs := [.int l4, .int l2]) (rest := []) (st2 := []) dX12_hangs_46 okX12_findFar (by decide) hkq4 hbq4 wd_1315 wd_1317 wp_42 pdX12_findFar rfl rfl rfl rfl (Nat.le_trans (by decide) hd) (Nat.le_of_ble_eq_true rfl) (T_X12_findFar (Nat.le_refl _) e4) rfl ?_
        refine st_iload_n (pc := 49) dX12_hangs_49 rfl ?_
        refine st_aload_n (pc := 50) dX12_hangs_50 rfl ?_
        refine bd_getr (pc := 51) hq dX12_hangs_51 fl_12_22_12 rfl (fun v5 hq => ?_)
        refine st_iload_n (pc := 54) dX12_hangs_54 rfl ?_
        refine bd_iald (pc := 55) hq dX12_hangs_55 (fun v6 hq => ?_)
        refine bd_if_lt (pc := 56) (tgt := 66) hq dX12_hangs_56 (by decide) (fun _ hq => ?_) (fun _ hq => ?_)
        ·
          refine st_iconst (pc := 66) (v := (0 : Int32)) dX12_hangs_66 rfl ?_
          refine st_lesS (lv' := [some (.ref l0), some (.int l1), some (.int l2), none, some (.int l4)]) ⟨Or.inr rfl, Or.inr rfl, Or.inr rfl, Or.inl rfl, Or.inr rfl, trivial⟩ ?_
          exact T_X12_hangs_67 hd ih hq
        ·
          refine st_iconst (pc := 59) (v := (1 : Int32)) dX12_hangs_59 rfl ?_
          refine st_iload (pc := 60) dX12_hangs_60 rfl ?_
          refine st_ishl (pc := 62) dX12_hangs_62 ?_
          refine st_goto (pc := 63) (tgt := 67) dX12_hangs_63 (by decide) ?_
          refine st_lesS (lv' := [some (.ref l0), some (.int l1), some (.int l2), none, some (.int l4)]) ⟨Or.inr rfl, Or.inr rfl, Or.inr rfl, Or.inl rfl, Or.inr rfl, trivial⟩ ?_
          exact T_X12_hangs_67 hd ih hq
def D_X12_hangs (N : Nat) (h : mh_H) (l0 : Nat) (l1 : Int32) (l2 : Int32) : Option (Int32 × mh_H) :=
  kO h 12 l0 <|
  (D_X12_isJoint N h l0 l1).bind fun q1 =>
  if q1.1 = 0 then (kO q1.2 12 l0 <|
  (D_X12_error N q1.2 l0 (1 : Int32)).bind fun q2 =>
  some (q2.1, q2.2))
  else (D_X12_hangs_19 N N q1.2 l0 l1 l2 (0 : Int32) (0 : Int32))
set_option maxHeartbeats 4000000 in
set_option maxRecDepth 100000 in
theorem T_X12_hangs {P : mh_E → Prop} {N d : Nat} (hd : 5 ≤ d) {z : (Int32 × mh_H)} {h : mh_H} {l0 : Nat} {l1 : Int32} {l2 : Int32} (hq : D_X12_hangs N h l0 l1 l2 = some z) : mh_go P d mX12_hangs 0 [some (.ref l0), some (.int l1), some (.int l2), none, none] [] h (some (.int z.1)) z.2 := by
  unfold D_X12_hangs at hq
  refine st_aload_n (pc := 0) dX12_hangs_0 rfl ?_
  refine st_iload_n (pc := 1) dX12_hangs_1 rfl ?_
  obtain ⟨⟨hbq1, hkq1⟩, hq⟩ := mh_oi hq
  obtain ⟨q1, e1, hq⟩ := mh_ob hq
  refine st_invV (pc := 2) (ci := 12) (vs := [.int l1]) (rest := []) (st2 := [.int q1.1]) dX12_hangs_2 okX12_isJoint (by decide) hkq1 hbq1 wd_1259 wd_1261 wp_35 pdX12_isJoint rfl rfl rfl rfl (Nat.le_trans (by decide) hd) (Nat.le_of_ble_eq_true rfl) (T_X12_isJoint (Nat.le_refl _) e1) rfl ?_
  refine bd_if_ne (pc := 5) (tgt := 14) hq dX12_hangs_5 (by decide) (fun _ hq => ?_) (fun _ hq => ?_)
  ·
    refine st_aload_n (pc := 8) dX12_hangs_8 rfl ?_
    refine st_iconst (pc := 9) (v := (1 : Int32)) dX12_hangs_9 rfl ?_
    obtain ⟨⟨hbq2, hkq2⟩, hq⟩ := mh_oi hq
    obtain ⟨q2, e2, hq⟩ := mh_ob hq
    refine st_invV (pc := 10) (ci := 12) (vs := [.int (1 : Int32)]) (rest := []) (st2 := [.int q2.1]) dX12_hangs_10 okX12_error (by decide) hkq2 hbq2 wd_1247 wd_1249 wp_34 pdX12_error rfl rfl rfl rfl (Nat.le_trans (by decide) hd) (Nat.le_of_ble_eq_true rfl) (T_X12_error (Nat.le_refl _) e2) rfl ?_
    exact bd_iret (pc := 13) hq dX12_hangs_13 rfl
  ·
    refine st_iconst (pc := 14) (v := (0 : Int32)) dX12_hangs_14 rfl ?_
    refine st_istore_n (pc := 15) (lv' := [some (.ref l0), some (.int l1), some (.int l2), some (.int (0 : Int32)), none]) dX12_hangs_15 rfl (by decide) rfl ?_
    refine st_iconst (pc := 16) (v := (0 : Int32)) dX12_hangs_16 rfl ?_
    refine st_istore (pc := 17) (lv' := [some (.ref l0), some (.int l1), some (.int l2), some (.int (0 : Int32)), some (.int (0 : Int32))]) dX12_hangs_17 rfl (by decide) rfl ?_
    exact T_X12_hangs_19 hd N _ _ _ _ _ _ hq
-- HoleWaterModel.quick(II)I
theorem dX12_quick_16 : decode cX12_quick 16 = .ok (.aload_n 0, 1) := by decide +kernel
theorem dX12_quick_17 : decode cX12_quick 17 = .ok (.iconst 1, 1) := by decide +kernel
theorem dX12_quick_18 : decode cX12_quick 18 = .ok (.invokevirtual 80, 3) := by decide +kernel
theorem dX12_quick_21 : decode cX12_quick 21 = .ok (.ireturn, 1) := by decide +kernel
theorem dX12_quick_0 : decode cX12_quick 0 = .ok (.aload_n 0, 1) := by decide +kernel
theorem dX12_quick_1 : decode cX12_quick 1 = .ok (.iload_n 1, 1) := by decide +kernel
theorem dX12_quick_2 : decode cX12_quick 2 = .ok (.invokevirtual 83, 3) := by decide +kernel
theorem dX12_quick_5 : decode cX12_quick 5 = .ok (.ifCond .eq 11, 3) := by decide +kernel
theorem dX12_quick_8 : decode cX12_quick 8 = .ok (.aload_n 0, 1) := by decide +kernel
theorem dX12_quick_9 : decode cX12_quick 9 = .ok (.iload_n 2, 1) := by decide +kernel
theorem dX12_quick_10 : decode cX12_quick 10 = .ok (.invokevirtual 83, 3) := by decide +kernel
theorem dX12_quick_13 : decode cX12_quick 13 = .ok (.ifCond .ne 9, 3) := by decide +kernel
theorem dX12_quick_22 : decode cX12_quick 22 = .ok (.aload_n 0, 1) := by decide +kernel
theorem dX12_quick_23 : decode cX12_quick 23 = .ok (.iload_n 1, 1) := by decide +kernel
theorem dX12_quick_24 : decode cX12_quick 24 = .ok (.iconst 1, 1) := by decide +kernel
theorem dX12_quick_25 : decode cX12_quick 25 = .ok (.invokevirtual 119, 3) := by decide +kernel
theorem dX12_quick_28 : decode cX12_quick 28 = .ok (.aload_n 0, 1) := by decide +kernel
theorem dX12_quick_29 : decode cX12_quick 29 = .ok (.getfield 22, 3) := by decide +kernel
theorem dX12_quick_32 : decode cX12_quick 32 = .ok (.iload_n 2, 1) := by decide +kernel
theorem dX12_quick_33 : decode cX12_quick 33 = .ok (.iaload, 1) := by decide +kernel
theorem dX12_quick_34 : decode cX12_quick 34 = .ok (.ifCond .lt 12, 3) := by decide +kernel
theorem dX12_quick_46 : decode cX12_quick 46 = .ok (.aload_n 0, 1) := by decide +kernel
theorem dX12_quick_47 : decode cX12_quick 47 = .ok (.iconst 2, 1) := by decide +kernel
theorem dX12_quick_48 : decode cX12_quick 48 = .ok (.invokevirtual 80, 3) := by decide +kernel
theorem dX12_quick_51 : decode cX12_quick 51 = .ok (.ireturn, 1) := by decide +kernel
theorem dX12_quick_37 : decode cX12_quick 37 = .ok (.aload_n 0, 1) := by decide +kernel
theorem dX12_quick_38 : decode cX12_quick 38 = .ok (.getfield 22, 3) := by decide +kernel
theorem dX12_quick_41 : decode cX12_quick 41 = .ok (.iload_n 2, 1) := by decide +kernel
theorem dX12_quick_42 : decode cX12_quick 42 = .ok (.iaload, 1) := by decide +kernel
theorem dX12_quick_43 : decode cX12_quick 43 = .ok (.goto 8, 3) := by decide +kernel
def D_X12_quick_16 (N : Nat) (h : mh_H) (l0 : Nat) : Option (Int32 × mh_H) :=
  kO h 12 l0 <|
  (D_X12_error N h l0 (1 : Int32)).bind fun q1 =>
  some (q1.1, q1.2)
set_option maxHeartbeats 4000000 in
set_option maxRecDepth 100000 in
theorem T_X12_quick_16 {P : mh_E → Prop} {N d : Nat} (hd : 5 ≤ d) {z : (Int32 × mh_H)} {h : mh_H} {l0 : Nat} (hq : D_X12_quick_16 N h l0 = some z) : mh_go P d mX12_quick 16 [some (.ref l0), none, none] [] h (some (.int z.1)) z.2 := by
  unfold D_X12_quick_16 at hq
  refine st_aload_n (pc := 16) dX12_quick_16 rfl ?_
  refine st_iconst (pc := 17) (v := (1 : Int32)) dX12_quick_17 rfl ?_
  obtain ⟨⟨hbq1, hkq1⟩, hq⟩ := mh_oi hq
  obtain ⟨q1, e1, hq⟩ := mh_ob hq
  refine st_invV (pc := 18) (ci := 12) (vs := [.int (1 : Int32)]) (rest := []) (st2 := [.int q1.1]) dX12_quick_18 okX12_error (by decide) hkq1 hbq1 wd_1247 wd_1249 wp_34 pdX12_error rfl rfl rfl rfl (Nat.le_trans (by decide) hd) (Nat.le_of_ble_eq_true rfl) (T_X12_error (Nat.le_refl _) e1) rfl ?_
  exact bd_iret (pc := 21) hq dX12_quick_21 rfl
def D_X12_quick (N : Nat) (h : mh_H) (l0 : Nat) (l1 : Int32) (l2 : Int32) : Option (Int32 × mh_H) :=
  kO h 12 l0 <|
  (D_X12_isJoint N h l0 l1).bind fun q1 =>
  if q1.1 = 0 then (D_X12_quick_16 N q1.2 l0)
  else (kO q1.2 12 l0 <|
  (D_X12_isJoint N q1.2 l0 l2).bind fun q2 =>
  if q2.1 = 0 then (D_X12_quick_16 N q2.2 l0)
  else (kO q2.2 12 l0 <|
  (D_X12_findFar N q2.2 l0 l1 (1 : Int32)).bind fun q3 =>
  (gR q3 12 l0 5).bind fun v4 =>
  (aI q3 v4 l2).bind fun v5 =>
  if v5 < 0 then (kO q3 12 l0 <|
  (D_X12_error N q3 l0 (2 : Int32)).bind fun q6 =>
  some (q6.1, q6.2))
  else ((gR q3 12 l0 5).bind fun v6 =>
  (aI q3 v6 l2).bind fun v7 =>
  some (v7, q3))))
set_option maxHeartbeats 4000000 in
set_option maxRecDepth 100000 in
theorem T_X12_quick {P : mh_E → Prop} {N d : Nat} (hd : 5 ≤ d) {z : (Int32 × mh_H)} {h : mh_H} {l0 : Nat} {l1 : Int32} {l2 : Int32} (hq : D_X12_quick N h l0 l1 l2 = some z) : mh_go P d mX12_quick 0 [some (.ref l0), some (.int l1), some (.int l2)] [] h (some (.int z.1)) z.2 := by
  unfold D_X12_quick at hq
  refine st_aload_n (pc := 0) dX12_quick_0 rfl ?_
  refine st_iload_n (pc := 1) dX12_quick_1 rfl ?_
  obtain ⟨⟨hbq1, hkq1⟩, hq⟩ := mh_oi hq
  obtain ⟨q1, e1, hq⟩ := mh_ob hq
  refine st_invV (pc := 2) (ci := 12) (vs := [.int l1]) (rest := []) (st2 := [.int q1.1]) dX12_quick_2 okX12_isJoint (by decide) hkq1 hbq1 wd_1259 wd_1261 wp_35 pdX12_isJoint rfl rfl rfl rfl (Nat.le_trans (by decide) hd) (Nat.le_of_ble_eq_true rfl) (T_X12_isJoint (Nat.le_refl _) e1) rfl ?_
  refine bd_if_eq (pc := 5) (tgt := 16) hq dX12_quick_5 (by decide) (fun _ hq => ?_) (fun _ hq => ?_)
  ·
    refine st_lesS (lv' := [some (.ref l0), none, none]) ⟨Or.inr rfl, Or.inl rfl, Or.inl rfl, trivial⟩ ?_
    exact T_X12_quick_16 hd hq
  ·
    refine st_aload_n (pc := 8) dX12_quick_8 rfl ?_
    refine st_iload_n (pc := 9) dX12_quick_9 rfl ?_
    obtain ⟨⟨hbq2, hkq2⟩, hq⟩ := mh_oi hq
    obtain ⟨q2, e2, hq⟩ := mh_ob hq
    refine st_invV (pc := 10) (ci := 12) (vs := [.int l2]) (rest := []) (st2 := [.int q2.1]) dX12_quick_10 okX12_isJoint (by decide) hkq2 hbq2 wd_1259 wd_1261 wp_35 pdX12_isJoint rfl rfl rfl rfl (Nat.le_trans (by decide) hd) (Nat.le_of_ble_eq_true rfl) (T_X12_isJoint (Nat.le_refl _) e2) rfl ?_
    refine bd_if_ne (pc := 13) (tgt := 22) hq dX12_quick_13 (by decide) (fun _ hq => ?_) (fun _ hq => ?_)
    ·
      refine st_lesS (lv' := [some (.ref l0), none, none]) ⟨Or.inr rfl, Or.inl rfl, Or.inl rfl, trivial⟩ ?_
      exact T_X12_quick_16 hd hq
    ·
      refine st_aload_n (pc := 22) dX12_quick_22 rfl ?_
      refine st_iload_n (pc := 23) dX12_quick_23 rfl ?_
      refine st_iconst (pc := 24) (v := (1 : Int32)) dX12_quick_24 rfl ?_
      obtain ⟨⟨hbq3, hkq3⟩, hq⟩ := mh_oi hq
      obtain ⟨q3, e3, hq⟩ := mh_ob hq
      refine st_invV (pc := 25) (ci := 12) (vs := [.int l1, .int (1 : Int32)]) (rest := []) (st2 := []) dX12_quick_25 okX12_findFar (by decide) hkq3 hbq3 wd_1315 wd_1317 wp_42 pdX12_findFar rfl rfl rfl rfl (Nat.le_trans (by decide) hd) (Nat.le_of_ble_eq_true rfl) (T_X12_findFar (Nat.le_refl _) e3) rfl ?_
      refine st_aload_n (pc := 28) dX12_quick_28 rfl ?_
      refine bd_getr (pc := 29) hq dX12_quick_29 fl_12_22_12 rfl (fun v4 hq => ?_)
      refine st_iload_n (pc := 32) dX12_quick_32 rfl ?_
      refine bd_iald (pc := 33) hq dX12_quick_33 (fun v5 hq => ?_)
      refine bd_if_lt (pc := 34) (tgt := 46) hq dX12_quick_34 (by decide) (fun _ hq => ?_) (fun _ hq => ?_)
      ·
        refine st_aload_n (pc := 46) dX12_quick_46 rfl ?_
        refine st_iconst (pc := 47) (v := (2 : Int32)) dX12_quick_47 rfl ?_
        obtain ⟨⟨hbq6, hkq6⟩, hq⟩ := mh_oi hq
        obtain ⟨q6, e6, hq⟩ := mh_ob hq
        refine st_invV (pc := 48) (ci := 12) (vs := [.int (2 : Int32)]) (rest := []) (st2 := [.int q6.1]) dX12_quick_48 okX12_error (by decide) hkq6 hbq6 wd_1247 wd_1249 wp_34 pdX12_error rfl rfl rfl rfl (Nat.le_trans (by decide) hd) (Nat.le_of_ble_eq_true rfl) (T_X12_error (Nat.le_refl _) e6) rfl ?_
        exact bd_iret (pc := 51) hq dX12_quick_51 rfl
      ·
        refine st_aload_n (pc := 37) dX12_quick_37 rfl ?_
        refine bd_getr (pc := 38) hq dX12_quick_38 fl_12_22_12 rfl (fun v6 hq => ?_)
        refine st_iload_n (pc := 41) dX12_quick_41 rfl ?_
        refine bd_iald (pc := 42) hq dX12_quick_42 (fun v7 hq => ?_)
        refine st_goto (pc := 43) (tgt := 51) dX12_quick_43 (by decide) ?_
        exact bd_iret (pc := 51) hq dX12_quick_51 rfl
-- HoleWaterModel.stuffAt(II)I
theorem dX12_stuffAt_0 : decode cX12_stuffAt 0 = .ok (.bipush 16, 2) := by decide +kernel
theorem dX12_stuffAt_2 : decode cX12_stuffAt 2 = .ok (.bipush 7, 2) := by decide +kernel
theorem dX12_stuffAt_4 : decode cX12_stuffAt 4 = .ok (.iload_n 0, 1) := by decide +kernel
theorem dX12_stuffAt_5 : decode cX12_stuffAt 5 = .ok (.imul, 1) := by decide +kernel
theorem dX12_stuffAt_6 : decode cX12_stuffAt 6 = .ok (.iadd, 1) := by decide +kernel
theorem dX12_stuffAt_7 : decode cX12_stuffAt 7 = .ok (.iload_n 1, 1) := by decide +kernel
theorem dX12_stuffAt_8 : decode cX12_stuffAt 8 = .ok (.iadd, 1) := by decide +kernel
theorem dX12_stuffAt_9 : decode cX12_stuffAt 9 = .ok (.ireturn, 1) := by decide +kernel
def D_X12_stuffAt (N : Nat) (h : mh_H) (l0 : Int32) (l1 : Int32) : Option (Int32 × mh_H) :=
  some (((16 : Int32) + ((7 : Int32) * l0)) + l1, h)
set_option maxHeartbeats 4000000 in
set_option maxRecDepth 100000 in
theorem T_X12_stuffAt {P : mh_E → Prop} {N d : Nat} (hd : 1 ≤ d) {z : (Int32 × mh_H)} {h : mh_H} {l0 : Int32} {l1 : Int32} (hq : D_X12_stuffAt N h l0 l1 = some z) : mh_go P d mX12_stuffAt 0 [some (.int l0), some (.int l1)] [] h (some (.int z.1)) z.2 := by
  unfold D_X12_stuffAt at hq
  refine st_bipush (pc := 0) (v := (16 : Int32)) dX12_stuffAt_0 (by decide) ?_
  refine st_bipush (pc := 2) (v := (7 : Int32)) dX12_stuffAt_2 (by decide) ?_
  refine st_iload_n (pc := 4) dX12_stuffAt_4 rfl ?_
  refine st_imul (pc := 5) dX12_stuffAt_5 ?_
  refine st_iadd (pc := 6) dX12_stuffAt_6 ?_
  refine st_iload_n (pc := 7) dX12_stuffAt_7 rfl ?_
  refine st_iadd (pc := 8) dX12_stuffAt_8 ?_
  exact bd_iret (pc := 9) hq dX12_stuffAt_9 rfl
-- HoleWaterModel.comesOut(I)V
theorem dX12_comesOut_270 : decode cX12_comesOut 270 = .ok (.iadd, 1) := by decide +kernel
theorem dX12_comesOut_271 : decode cX12_comesOut 271 = .ok (.dup2, 1) := by decide +kernel
theorem dX12_comesOut_272 : decode cX12_comesOut 272 = .ok (.iaload, 1) := by decide +kernel
theorem dX12_comesOut_273 : decode cX12_comesOut 273 = .ok (.iload 8, 2) := by decide +kernel
theorem dX12_comesOut_275 : decode cX12_comesOut 275 = .ok (.iadd, 1) := by decide +kernel
theorem dX12_comesOut_276 : decode cX12_comesOut 276 = .ok (.iastore, 1) := by decide +kernel
theorem dX12_comesOut_277 : decode cX12_comesOut 277 = .ok (.iinc 7 1, 3) := by decide +kernel
theorem dX12_comesOut_280 : decode cX12_comesOut 280 = .ok (.goto (-212), 3) := by decide +kernel
theorem dX12_comesOut_248 : decode cX12_comesOut 248 = .ok (.aload_n 0, 1) := by decide +kernel
theorem dX12_comesOut_249 : decode cX12_comesOut 249 = .ok (.getfield 9, 3) := by decide +kernel
theorem dX12_comesOut_252 : decode cX12_comesOut 252 = .ok (.iload 4, 2) := by decide +kernel
theorem dX12_comesOut_254 : decode cX12_comesOut 254 = .ok (.iload 7, 2) := by decide +kernel
theorem dX12_comesOut_256 : decode cX12_comesOut 256 = .ok (.ifCond .ne 7, 3) := by decide +kernel
theorem dX12_comesOut_259 : decode cX12_comesOut 259 = .ok (.iconst 3, 1) := by decide +kernel
theorem dX12_comesOut_260 : decode cX12_comesOut 260 = .ok (.goto 10, 3) := by decide +kernel
theorem dX12_comesOut_263 : decode cX12_comesOut 263 = .ok (.bipush 7, 2) := by decide +kernel
theorem dX12_comesOut_265 : decode cX12_comesOut 265 = .ok (.iload 7, 2) := by decide +kernel
theorem dX12_comesOut_267 : decode cX12_comesOut 267 = .ok (.iadd, 1) := by decide +kernel
theorem dX12_comesOut_268 : decode cX12_comesOut 268 = .ok (.iconst 1, 1) := by decide +kernel
theorem dX12_comesOut_269 : decode cX12_comesOut 269 = .ok (.isub, 1) := by decide +kernel
theorem dX12_comesOut_229 : decode cX12_comesOut 229 = .ok (.iadd, 1) := by decide +kernel
theorem dX12_comesOut_230 : decode cX12_comesOut 230 = .ok (.istore 8, 2) := by decide +kernel
theorem dX12_comesOut_232 : decode cX12_comesOut 232 = .ok (.aload_n 0, 1) := by decide +kernel
theorem dX12_comesOut_233 : decode cX12_comesOut 233 = .ok (.getfield 9, 3) := by decide +kernel
theorem dX12_comesOut_236 : decode cX12_comesOut 236 = .ok (.iload_n 2, 1) := by decide +kernel
theorem dX12_comesOut_237 : decode cX12_comesOut 237 = .ok (.iconst 5, 1) := by decide +kernel
theorem dX12_comesOut_238 : decode cX12_comesOut 238 = .ok (.iadd, 1) := by decide +kernel
theorem dX12_comesOut_239 : decode cX12_comesOut 239 = .ok (.iload 7, 2) := by decide +kernel
theorem dX12_comesOut_241 : decode cX12_comesOut 241 = .ok (.iadd, 1) := by decide +kernel
theorem dX12_comesOut_242 : decode cX12_comesOut 242 = .ok (.dup2, 1) := by decide +kernel
theorem dX12_comesOut_243 : decode cX12_comesOut 243 = .ok (.iaload, 1) := by decide +kernel
theorem dX12_comesOut_244 : decode cX12_comesOut 244 = .ok (.iload 8, 2) := by decide +kernel
theorem dX12_comesOut_246 : decode cX12_comesOut 246 = .ok (.isub, 1) := by decide +kernel
theorem dX12_comesOut_247 : decode cX12_comesOut 247 = .ok (.iastore, 1) := by decide +kernel
theorem dX12_comesOut_165 : decode cX12_comesOut 165 = .ok (.iload 5, 2) := by decide +kernel
theorem dX12_comesOut_167 : decode cX12_comesOut 167 = .ok (.ifCond .eq 81, 3) := by decide +kernel
theorem dX12_comesOut_170 : decode cX12_comesOut 170 = .ok (.aload_n 0, 1) := by decide +kernel
theorem dX12_comesOut_171 : decode cX12_comesOut 171 = .ok (.getfield 9, 3) := by decide +kernel
theorem dX12_comesOut_174 : decode cX12_comesOut 174 = .ok (.iload_n 2, 1) := by decide +kernel
theorem dX12_comesOut_175 : decode cX12_comesOut 175 = .ok (.iconst 5, 1) := by decide +kernel
theorem dX12_comesOut_176 : decode cX12_comesOut 176 = .ok (.iadd, 1) := by decide +kernel
theorem dX12_comesOut_177 : decode cX12_comesOut 177 = .ok (.iload 7, 2) := by decide +kernel
theorem dX12_comesOut_179 : decode cX12_comesOut 179 = .ok (.iadd, 1) := by decide +kernel
theorem dX12_comesOut_180 : decode cX12_comesOut 180 = .ok (.dup2, 1) := by decide +kernel
theorem dX12_comesOut_181 : decode cX12_comesOut 181 = .ok (.iaload, 1) := by decide +kernel
theorem dX12_comesOut_182 : decode cX12_comesOut 182 = .ok (.iload 8, 2) := by decide +kernel
theorem dX12_comesOut_184 : decode cX12_comesOut 184 = .ok (.iadd, 1) := by decide +kernel
theorem dX12_comesOut_185 : decode cX12_comesOut 185 = .ok (.iastore, 1) := by decide +kernel
theorem dX12_comesOut_186 : decode cX12_comesOut 186 = .ok (.aload_n 0, 1) := by decide +kernel
theorem dX12_comesOut_187 : decode cX12_comesOut 187 = .ok (.getfield 9, 3) := by decide +kernel
theorem dX12_comesOut_190 : decode cX12_comesOut 190 = .ok (.iload_n 2, 1) := by decide +kernel
theorem dX12_comesOut_191 : decode cX12_comesOut 191 = .ok (.iconst 5, 1) := by decide +kernel
theorem dX12_comesOut_192 : decode cX12_comesOut 192 = .ok (.iadd, 1) := by decide +kernel
theorem dX12_comesOut_193 : decode cX12_comesOut 193 = .ok (.iload 7, 2) := by decide +kernel
theorem dX12_comesOut_195 : decode cX12_comesOut 195 = .ok (.iadd, 1) := by decide +kernel
theorem dX12_comesOut_196 : decode cX12_comesOut 196 = .ok (.iaload, 1) := by decide +kernel
theorem dX12_comesOut_197 : decode cX12_comesOut 197 = .ok (.istore 9, 2) := by decide +kernel
theorem dX12_comesOut_199 : decode cX12_comesOut 199 = .ok (.iload 9, 2) := by decide +kernel
theorem dX12_comesOut_201 : decode cX12_comesOut 201 = .ok (.aload_n 0, 1) := by decide +kernel
theorem dX12_comesOut_202 : decode cX12_comesOut 202 = .ok (.getfield 9, 3) := by decide +kernel
theorem dX12_comesOut_205 : decode cX12_comesOut 205 = .ok (.iload_n 2, 1) := by decide +kernel
theorem dX12_comesOut_206 : decode cX12_comesOut 206 = .ok (.iconst 4, 1) := by decide +kernel
theorem dX12_comesOut_207 : decode cX12_comesOut 207 = .ok (.iadd, 1) := by decide +kernel
theorem dX12_comesOut_208 : decode cX12_comesOut 208 = .ok (.iaload, 1) := by decide +kernel
theorem dX12_comesOut_209 : decode cX12_comesOut 209 = .ok (.idiv, 1) := by decide +kernel
theorem dX12_comesOut_210 : decode cX12_comesOut 210 = .ok (.iload 9, 2) := by decide +kernel
theorem dX12_comesOut_212 : decode cX12_comesOut 212 = .ok (.aload_n 0, 1) := by decide +kernel
theorem dX12_comesOut_213 : decode cX12_comesOut 213 = .ok (.getfield 9, 3) := by decide +kernel
theorem dX12_comesOut_216 : decode cX12_comesOut 216 = .ok (.iload_n 2, 1) := by decide +kernel
theorem dX12_comesOut_217 : decode cX12_comesOut 217 = .ok (.iconst 4, 1) := by decide +kernel
theorem dX12_comesOut_218 : decode cX12_comesOut 218 = .ok (.iadd, 1) := by decide +kernel
theorem dX12_comesOut_219 : decode cX12_comesOut 219 = .ok (.iaload, 1) := by decide +kernel
theorem dX12_comesOut_220 : decode cX12_comesOut 220 = .ok (.irem, 1) := by decide +kernel
theorem dX12_comesOut_221 : decode cX12_comesOut 221 = .ok (.ifCond .le 7, 3) := by decide +kernel
theorem dX12_comesOut_228 : decode cX12_comesOut 228 = .ok (.iconst 0, 1) := by decide +kernel
theorem dX12_comesOut_224 : decode cX12_comesOut 224 = .ok (.iconst 1, 1) := by decide +kernel
theorem dX12_comesOut_225 : decode cX12_comesOut 225 = .ok (.goto 4, 3) := by decide +kernel
theorem dX12_comesOut_134 : decode cX12_comesOut 134 = .ok (.imul, 1) := by decide +kernel
theorem dX12_comesOut_135 : decode cX12_comesOut 135 = .ok (.bipush 100, 2) := by decide +kernel
theorem dX12_comesOut_137 : decode cX12_comesOut 137 = .ok (.idiv, 1) := by decide +kernel
theorem dX12_comesOut_138 : decode cX12_comesOut 138 = .ok (.istore 10, 2) := by decide +kernel
theorem dX12_comesOut_140 : decode cX12_comesOut 140 = .ok (.aload_n 0, 1) := by decide +kernel
theorem dX12_comesOut_141 : decode cX12_comesOut 141 = .ok (.getfield 9, 3) := by decide +kernel
theorem dX12_comesOut_144 : decode cX12_comesOut 144 = .ok (.iload 7, 2) := by decide +kernel
theorem dX12_comesOut_146 : decode cX12_comesOut 146 = .ok (.iconst 1, 1) := by decide +kernel
theorem dX12_comesOut_147 : decode cX12_comesOut 147 = .ok (.isub, 1) := by decide +kernel
theorem dX12_comesOut_148 : decode cX12_comesOut 148 = .ok (.iconst 3, 1) := by decide +kernel
theorem dX12_comesOut_149 : decode cX12_comesOut 149 = .ok (.invokestatic 123, 3) := by decide +kernel
theorem dX12_comesOut_152 : decode cX12_comesOut 152 = .ok (.dup2, 1) := by decide +kernel
theorem dX12_comesOut_153 : decode cX12_comesOut 153 = .ok (.iaload, 1) := by decide +kernel
theorem dX12_comesOut_154 : decode cX12_comesOut 154 = .ok (.iload 10, 2) := by decide +kernel
theorem dX12_comesOut_156 : decode cX12_comesOut 156 = .ok (.iadd, 1) := by decide +kernel
theorem dX12_comesOut_157 : decode cX12_comesOut 157 = .ok (.iastore, 1) := by decide +kernel
theorem dX12_comesOut_158 : decode cX12_comesOut 158 = .ok (.iload 8, 2) := by decide +kernel
theorem dX12_comesOut_160 : decode cX12_comesOut 160 = .ok (.iload 10, 2) := by decide +kernel
theorem dX12_comesOut_162 : decode cX12_comesOut 162 = .ok (.isub, 1) := by decide +kernel
theorem dX12_comesOut_163 : decode cX12_comesOut 163 = .ok (.istore 8, 2) := by decide +kernel
theorem dX12_comesOut_68 : decode cX12_comesOut 68 = .ok (.iload 7, 2) := by decide +kernel
theorem dX12_comesOut_70 : decode cX12_comesOut 70 = .ok (.iconst 5, 1) := by decide +kernel
theorem dX12_comesOut_71 : decode cX12_comesOut 71 = .ok (.if_icmp .ge 212, 3) := by decide +kernel
theorem dX12_comesOut_283 : decode cX12_comesOut 283 = .ok (.return_, 1) := by decide +kernel
theorem dX12_comesOut_74 : decode cX12_comesOut 74 = .ok (.aload_n 0, 1) := by decide +kernel
theorem dX12_comesOut_75 : decode cX12_comesOut 75 = .ok (.getfield 9, 3) := by decide +kernel
theorem dX12_comesOut_78 : decode cX12_comesOut 78 = .ok (.iload 6, 2) := by decide +kernel
theorem dX12_comesOut_80 : decode cX12_comesOut 80 = .ok (.iload 7, 2) := by decide +kernel
theorem dX12_comesOut_82 : decode cX12_comesOut 82 = .ok (.iadd, 1) := by decide +kernel
theorem dX12_comesOut_83 : decode cX12_comesOut 83 = .ok (.iaload, 1) := by decide +kernel
theorem dX12_comesOut_84 : decode cX12_comesOut 84 = .ok (.istore 8, 2) := by decide +kernel
theorem dX12_comesOut_86 : decode cX12_comesOut 86 = .ok (.aload_n 0, 1) := by decide +kernel
theorem dX12_comesOut_87 : decode cX12_comesOut 87 = .ok (.getfield 9, 3) := by decide +kernel
theorem dX12_comesOut_90 : decode cX12_comesOut 90 = .ok (.iload 6, 2) := by decide +kernel
theorem dX12_comesOut_92 : decode cX12_comesOut 92 = .ok (.iload 7, 2) := by decide +kernel
theorem dX12_comesOut_94 : decode cX12_comesOut 94 = .ok (.iadd, 1) := by decide +kernel
theorem dX12_comesOut_95 : decode cX12_comesOut 95 = .ok (.iconst 0, 1) := by decide +kernel
theorem dX12_comesOut_96 : decode cX12_comesOut 96 = .ok (.iastore, 1) := by decide +kernel
theorem dX12_comesOut_97 : decode cX12_comesOut 97 = .ok (.iload 7, 2) := by decide +kernel
theorem dX12_comesOut_99 : decode cX12_comesOut 99 = .ok (.ifCond .le 66, 3) := by decide +kernel
theorem dX12_comesOut_102 : decode cX12_comesOut 102 = .ok (.aload_n 0, 1) := by decide +kernel
theorem dX12_comesOut_103 : decode cX12_comesOut 103 = .ok (.getfield 9, 3) := by decide +kernel
theorem dX12_comesOut_106 : decode cX12_comesOut 106 = .ok (.bipush 10, 2) := by decide +kernel
theorem dX12_comesOut_108 : decode cX12_comesOut 108 = .ok (.iload 7, 2) := by decide +kernel
theorem dX12_comesOut_110 : decode cX12_comesOut 110 = .ok (.iadd, 1) := by decide +kernel
theorem dX12_comesOut_111 : decode cX12_comesOut 111 = .ok (.iconst 1, 1) := by decide +kernel
theorem dX12_comesOut_112 : decode cX12_comesOut 112 = .ok (.isub, 1) := by decide +kernel
theorem dX12_comesOut_113 : decode cX12_comesOut 113 = .ok (.iaload, 1) := by decide +kernel
theorem dX12_comesOut_114 : decode cX12_comesOut 114 = .ok (.iload_n 3, 1) := by decide +kernel
theorem dX12_comesOut_115 : decode cX12_comesOut 115 = .ok (.imul, 1) := by decide +kernel
theorem dX12_comesOut_116 : decode cX12_comesOut 116 = .ok (.istore 9, 2) := by decide +kernel
theorem dX12_comesOut_118 : decode cX12_comesOut 118 = .ok (.iload 8, 2) := by decide +kernel
theorem dX12_comesOut_120 : decode cX12_comesOut 120 = .ok (.iload 9, 2) := by decide +kernel
theorem dX12_comesOut_122 : decode cX12_comesOut 122 = .ok (.bipush 100, 2) := by decide +kernel
theorem dX12_comesOut_124 : decode cX12_comesOut 124 = .ok (.if_icmp .ge 8, 3) := by decide +kernel
theorem dX12_comesOut_132 : decode cX12_comesOut 132 = .ok (.bipush 100, 2) := by decide +kernel
theorem dX12_comesOut_127 : decode cX12_comesOut 127 = .ok (.iload 9, 2) := by decide +kernel
theorem dX12_comesOut_129 : decode cX12_comesOut 129 = .ok (.goto 5, 3) := by decide +kernel
theorem dX12_comesOut_39 : decode cX12_comesOut 39 = .ok (.istore 5, 2) := by decide +kernel
theorem dX12_comesOut_41 : decode cX12_comesOut 41 = .ok (.iload_n 2, 1) := by decide +kernel
theorem dX12_comesOut_42 : decode cX12_comesOut 42 = .ok (.bipush 10, 2) := by decide +kernel
theorem dX12_comesOut_44 : decode cX12_comesOut 44 = .ok (.iadd, 1) := by decide +kernel
theorem dX12_comesOut_45 : decode cX12_comesOut 45 = .ok (.iconst 5, 1) := by decide +kernel
theorem dX12_comesOut_46 : decode cX12_comesOut 46 = .ok (.aload_n 0, 1) := by decide +kernel
theorem dX12_comesOut_47 : decode cX12_comesOut 47 = .ok (.getfield 9, 3) := by decide +kernel
theorem dX12_comesOut_50 : decode cX12_comesOut 50 = .ok (.iconst 0, 1) := by decide +kernel
theorem dX12_comesOut_51 : decode cX12_comesOut 51 = .ok (.iaload, 1) := by decide +kernel
theorem dX12_comesOut_52 : decode cX12_comesOut 52 = .ok (.iload_n 3, 1) := by decide +kernel
theorem dX12_comesOut_53 : decode cX12_comesOut 53 = .ok (.isub, 1) := by decide +kernel
theorem dX12_comesOut_54 : decode cX12_comesOut 54 = .ok (.sipush 410, 3) := by decide +kernel
theorem dX12_comesOut_57 : decode cX12_comesOut 57 = .ok (.iadd, 1) := by decide +kernel
theorem dX12_comesOut_58 : decode cX12_comesOut 58 = .ok (.bipush 41, 2) := by decide +kernel
theorem dX12_comesOut_60 : decode cX12_comesOut 60 = .ok (.irem, 1) := by decide +kernel
theorem dX12_comesOut_61 : decode cX12_comesOut 61 = .ok (.imul, 1) := by decide +kernel
theorem dX12_comesOut_62 : decode cX12_comesOut 62 = .ok (.iadd, 1) := by decide +kernel
theorem dX12_comesOut_63 : decode cX12_comesOut 63 = .ok (.istore 6, 2) := by decide +kernel
theorem dX12_comesOut_65 : decode cX12_comesOut 65 = .ok (.iconst 0, 1) := by decide +kernel
theorem dX12_comesOut_66 : decode cX12_comesOut 66 = .ok (.istore 7, 2) := by decide +kernel
theorem dX12_comesOut_0 : decode cX12_comesOut 0 = .ok (.iload_n 1, 1) := by decide +kernel
theorem dX12_comesOut_1 : decode cX12_comesOut 1 = .ok (.invokestatic 99, 3) := by decide +kernel
theorem dX12_comesOut_4 : decode cX12_comesOut 4 = .ok (.istore_n 2, 1) := by decide +kernel
theorem dX12_comesOut_5 : decode cX12_comesOut 5 = .ok (.aload_n 0, 1) := by decide +kernel
theorem dX12_comesOut_6 : decode cX12_comesOut 6 = .ok (.iload_n 1, 1) := by decide +kernel
theorem dX12_comesOut_7 : decode cX12_comesOut 7 = .ok (.invokevirtual 112, 3) := by decide +kernel
theorem dX12_comesOut_10 : decode cX12_comesOut 10 = .ok (.istore_n 3, 1) := by decide +kernel
theorem dX12_comesOut_11 : decode cX12_comesOut 11 = .ok (.aload_n 0, 1) := by decide +kernel
theorem dX12_comesOut_12 : decode cX12_comesOut 12 = .ok (.getfield 9, 3) := by decide +kernel
theorem dX12_comesOut_15 : decode cX12_comesOut 15 = .ok (.iload_n 2, 1) := by decide +kernel
theorem dX12_comesOut_16 : decode cX12_comesOut 16 = .ok (.iconst 2, 1) := by decide +kernel
theorem dX12_comesOut_17 : decode cX12_comesOut 17 = .ok (.iadd, 1) := by decide +kernel
theorem dX12_comesOut_18 : decode cX12_comesOut 18 = .ok (.iaload, 1) := by decide +kernel
theorem dX12_comesOut_19 : decode cX12_comesOut 19 = .ok (.invokestatic 71, 3) := by decide +kernel
theorem dX12_comesOut_22 : decode cX12_comesOut 22 = .ok (.istore 4, 2) := by decide +kernel
theorem dX12_comesOut_24 : decode cX12_comesOut 24 = .ok (.aload_n 0, 1) := by decide +kernel
theorem dX12_comesOut_25 : decode cX12_comesOut 25 = .ok (.getfield 9, 3) := by decide +kernel
theorem dX12_comesOut_28 : decode cX12_comesOut 28 = .ok (.iload_n 2, 1) := by decide +kernel
theorem dX12_comesOut_29 : decode cX12_comesOut 29 = .ok (.iaload, 1) := by decide +kernel
theorem dX12_comesOut_30 : decode cX12_comesOut 30 = .ok (.iconst 4, 1) := by decide +kernel
theorem dX12_comesOut_31 : decode cX12_comesOut 31 = .ok (.if_icmp .ne 7, 3) := by decide +kernel
theorem dX12_comesOut_34 : decode cX12_comesOut 34 = .ok (.iconst 1, 1) := by decide +kernel
theorem dX12_comesOut_35 : decode cX12_comesOut 35 = .ok (.goto 4, 3) := by decide +kernel
theorem dX12_comesOut_38 : decode cX12_comesOut 38 = .ok (.iconst 0, 1) := by decide +kernel
def D_X12_comesOut_270 (N : Nat) (k68 : mh_H → Nat → Int32 → Int32 → Int32 → Int32 → Int32 → Int32 → Option mh_H) (h : mh_H) (l0 : Nat) (l2 : Int32) (l3 : Int32) (l4 : Int32) (l5 : Int32) (l6 : Int32) (l7 : Int32) (l8 : Int32) (s0 : Nat) (s1 : Int32) (s2 : Int32) : Option mh_H :=
  (aI h s0 (s1 + s2)).bind fun v1 =>
  (uI h s0 (s1 + s2) (v1 + l8)).bind fun h2 =>
  k68 h2 l0 l2 l3 l4 l5 l6 (l7 + Int32.ofInt (1))
set_option maxHeartbeats 4000000 in
set_option maxRecDepth 100000 in
theorem T_X12_comesOut_270 {P : mh_E → Prop} {N d : Nat} (hd : 4 ≤ d) {z : mh_H} {k68 : mh_H → Nat → Int32 → Int32 → Int32 → Int32 → Int32 → Int32 → Option mh_H} (hk68 : ∀ (h : mh_H) (l0 : Nat) (l2 : Int32) (l3 : Int32) (l4 : Int32) (l5 : Int32) (l6 : Int32) (l7 : Int32), k68 h l0 l2 l3 l4 l5 l6 l7 = some z → mh_go P d mX12_comesOut 68 [some (.ref l0), none, some (.int l2), some (.int l3), some (.int l4), some (.int l5), some (.int l6), some (.int l7), none, none, none] [] h none z) {h : mh_H} {l0 : Nat} {l2 : Int32} {l3 : Int32} {l4 : Int32} {l5 : Int32} {l6 : Int32} {l7 : Int32} {l8 : Int32} {s0 : Nat} {s1 : Int32} {s2 : Int32} (hq : D_X12_comesOut_270 N k68 h l0 l2 l3 l4 l5 l6 l7 l8 s0 s1 s2 = some z) : mh_go P d mX12_comesOut 270 [some (.ref l0), none, some (.int l2), some (.int l3), some (.int l4), some (.int l5), some (.int l6), some (.int l7), some (.int l8), none, none] [.int s2, .int s1, .ref s0] h none z := by
  unfold D_X12_comesOut_270 at hq
  refine st_iadd (pc := 270) dX12_comesOut_270 ?_
  refine st_dup2 (pc := 271) dX12_comesOut_271 rfl rfl ?_
  refine bd_iald (pc := 272) hq dX12_comesOut_272 (fun v1 hq => ?_)
  refine st_iload (pc := 273) dX12_comesOut_273 rfl ?_
  refine st_iadd (pc := 275) dX12_comesOut_275 ?_
  refine bd_iast (pc := 276) hq dX12_comesOut_276 (fun h2 hq => ?_)
  refine st_iinc (pc := 277) (lv' := [some (.ref l0), none, some (.int l2), some (.int l3), some (.int l4), some (.int l5), some (.int l6), some (.int (l7 + Int32.ofInt (1))), some (.int l8), none, none]) dX12_comesOut_277 rfl rfl (by decide) rfl ?_
  refine st_goto (pc := 280) (tgt := 68) dX12_comesOut_280 (by decide) ?_
  refine st_lesS (lv' := [some (.ref l0), none, some (.int l2), some (.int l3), some (.int l4), some (.int l5), some (.int l6), some (.int (l7 + Int32.ofInt (1))), none, none, none]) ⟨Or.inr rfl, Or.inr rfl, Or.inr rfl, Or.inr rfl, Or.inr rfl, Or.inr rfl, Or.inr rfl, Or.inr rfl, Or.inl rfl, Or.inr rfl, Or.inr rfl, trivial⟩ ?_
  exact hk68 _ _ _ _ _ _ _ _ hq
def D_X12_comesOut_248 (N : Nat) (k68 : mh_H → Nat → Int32 → Int32 → Int32 → Int32 → Int32 → Int32 → Option mh_H) (h : mh_H) (l0 : Nat) (l2 : Int32) (l3 : Int32) (l4 : Int32) (l5 : Int32) (l6 : Int32) (l7 : Int32) (l8 : Int32) : Option mh_H :=
  (gR h 12 l0 0).bind fun v1 =>
  if l7 = 0 then (D_X12_comesOut_270 N k68 h l0 l2 l3 l4 l5 l6 l7 l8 v1 l4 (3 : Int32))
  else (D_X12_comesOut_270 N k68 h l0 l2 l3 l4 l5 l6 l7 l8 v1 l4 (((7 : Int32) + l7) - (1 : Int32)))
set_option maxHeartbeats 4000000 in
set_option maxRecDepth 100000 in
theorem T_X12_comesOut_248 {P : mh_E → Prop} {N d : Nat} (hd : 4 ≤ d) {z : mh_H} {k68 : mh_H → Nat → Int32 → Int32 → Int32 → Int32 → Int32 → Int32 → Option mh_H} (hk68 : ∀ (h : mh_H) (l0 : Nat) (l2 : Int32) (l3 : Int32) (l4 : Int32) (l5 : Int32) (l6 : Int32) (l7 : Int32), k68 h l0 l2 l3 l4 l5 l6 l7 = some z → mh_go P d mX12_comesOut 68 [some (.ref l0), none, some (.int l2), some (.int l3), some (.int l4), some (.int l5), some (.int l6), some (.int l7), none, none, none] [] h none z) {h : mh_H} {l0 : Nat} {l2 : Int32} {l3 : Int32} {l4 : Int32} {l5 : Int32} {l6 : Int32} {l7 : Int32} {l8 : Int32} (hq : D_X12_comesOut_248 N k68 h l0 l2 l3 l4 l5 l6 l7 l8 = some z) : mh_go P d mX12_comesOut 248 [some (.ref l0), none, some (.int l2), some (.int l3), some (.int l4), some (.int l5), some (.int l6), some (.int l7), some (.int l8), none, none] [] h none z := by
  unfold D_X12_comesOut_248 at hq
  refine st_aload_n (pc := 248) dX12_comesOut_248 rfl ?_
  refine bd_getr (pc := 249) hq dX12_comesOut_249 fl_12_9_12 rfl (fun v1 hq => ?_)
  refine st_iload (pc := 252) dX12_comesOut_252 rfl ?_
  refine st_iload (pc := 254) dX12_comesOut_254 rfl ?_
  refine bd_if_ne (pc := 256) (tgt := 263) hq dX12_comesOut_256 (by decide) (fun _ hq => ?_) (fun _ hq => ?_)
  ·
    refine st_iconst (pc := 259) (v := (3 : Int32)) dX12_comesOut_259 rfl ?_
    refine st_goto (pc := 260) (tgt := 270) dX12_comesOut_260 (by decide) ?_
    exact T_X12_comesOut_270 hd hk68 hq
  ·
    refine st_bipush (pc := 263) (v := (7 : Int32)) dX12_comesOut_263 (by decide) ?_
    refine st_iload (pc := 265) dX12_comesOut_265 rfl ?_
    refine st_iadd (pc := 267) dX12_comesOut_267 ?_
    refine st_iconst (pc := 268) (v := (1 : Int32)) dX12_comesOut_268 rfl ?_
    refine st_isub (pc := 269) dX12_comesOut_269 ?_
    exact T_X12_comesOut_270 hd hk68 hq
def D_X12_comesOut_229 (N : Nat) (k68 : mh_H → Nat → Int32 → Int32 → Int32 → Int32 → Int32 → Int32 → Option mh_H) (h : mh_H) (l0 : Nat) (l2 : Int32) (l3 : Int32) (l4 : Int32) (l5 : Int32) (l6 : Int32) (l7 : Int32) (s0 : Int32) (s1 : Int32) : Option mh_H :=
  (gR h 12 l0 0).bind fun v1 =>
  (aI h v1 ((l2 + (5 : Int32)) + l7)).bind fun v2 =>
  (uI h v1 ((l2 + (5 : Int32)) + l7) (v2 - (s0 + s1))).bind fun h3 =>
  D_X12_comesOut_248 N k68 h3 l0 l2 l3 l4 l5 l6 l7 (s0 + s1)
set_option maxHeartbeats 4000000 in
set_option maxRecDepth 100000 in
theorem T_X12_comesOut_229 {P : mh_E → Prop} {N d : Nat} (hd : 4 ≤ d) {z : mh_H} {k68 : mh_H → Nat → Int32 → Int32 → Int32 → Int32 → Int32 → Int32 → Option mh_H} (hk68 : ∀ (h : mh_H) (l0 : Nat) (l2 : Int32) (l3 : Int32) (l4 : Int32) (l5 : Int32) (l6 : Int32) (l7 : Int32), k68 h l0 l2 l3 l4 l5 l6 l7 = some z → mh_go P d mX12_comesOut 68 [some (.ref l0), none, some (.int l2), some (.int l3), some (.int l4), some (.int l5), some (.int l6), some (.int l7), none, none, none] [] h none z) {h : mh_H} {l0 : Nat} {l2 : Int32} {l3 : Int32} {l4 : Int32} {l5 : Int32} {l6 : Int32} {l7 : Int32} {s0 : Int32} {s1 : Int32} (hq : D_X12_comesOut_229 N k68 h l0 l2 l3 l4 l5 l6 l7 s0 s1 = some z) : mh_go P d mX12_comesOut 229 [some (.ref l0), none, some (.int l2), some (.int l3), some (.int l4), some (.int l5), some (.int l6), some (.int l7), none, none, none] [.int s1, .int s0] h none z := by
  unfold D_X12_comesOut_229 at hq
  refine st_iadd (pc := 229) dX12_comesOut_229 ?_
  refine st_istore (pc := 230) (lv' := [some (.ref l0), none, some (.int l2), some (.int l3), some (.int l4), some (.int l5), some (.int l6), some (.int l7), some (.int (s0 + s1)), none, none]) dX12_comesOut_230 rfl (by decide) rfl ?_
  refine st_aload_n (pc := 232) dX12_comesOut_232 rfl ?_
  refine bd_getr (pc := 233) hq dX12_comesOut_233 fl_12_9_12 rfl (fun v1 hq => ?_)
  refine st_iload_n (pc := 236) dX12_comesOut_236 rfl ?_
  refine st_iconst (pc := 237) (v := (5 : Int32)) dX12_comesOut_237 rfl ?_
  refine st_iadd (pc := 238) dX12_comesOut_238 ?_
  refine st_iload (pc := 239) dX12_comesOut_239 rfl ?_
  refine st_iadd (pc := 241) dX12_comesOut_241 ?_
  refine st_dup2 (pc := 242) dX12_comesOut_242 rfl rfl ?_
  refine bd_iald (pc := 243) hq dX12_comesOut_243 (fun v2 hq => ?_)
  refine st_iload (pc := 244) dX12_comesOut_244 rfl ?_
  refine st_isub (pc := 246) dX12_comesOut_246 ?_
  refine bd_iast (pc := 247) hq dX12_comesOut_247 (fun h3 hq => ?_)
  exact T_X12_comesOut_248 hd hk68 hq
def D_X12_comesOut_165 (N : Nat) (k68 : mh_H → Nat → Int32 → Int32 → Int32 → Int32 → Int32 → Int32 → Option mh_H) (h : mh_H) (l0 : Nat) (l2 : Int32) (l3 : Int32) (l4 : Int32) (l5 : Int32) (l6 : Int32) (l7 : Int32) (l8 : Int32) : Option mh_H :=
  if l5 = 0 then (D_X12_comesOut_248 N k68 h l0 l2 l3 l4 l5 l6 l7 l8)
  else ((gR h 12 l0 0).bind fun v1 =>
  (aI h v1 ((l2 + (5 : Int32)) + l7)).bind fun v2 =>
  (uI h v1 ((l2 + (5 : Int32)) + l7) (v2 + l8)).bind fun h3 =>
  (gR h3 12 l0 0).bind fun v4 =>
  (aI h3 v4 ((l2 + (5 : Int32)) + l7)).bind fun v5 =>
  (gR h3 12 l0 0).bind fun v6 =>
  (aI h3 v6 (l2 + (4 : Int32))).bind fun v7 =>
  dN v7 <|
  (gR h3 12 l0 0).bind fun v8 =>
  (aI h3 v8 (l2 + (4 : Int32))).bind fun v9 =>
  dN v9 <|
  if (v5 - v5 / v9 * v9) ≤ 0 then (D_X12_comesOut_229 N k68 h3 l0 l2 l3 l4 l5 l6 l7 (v5 / v7) (0 : Int32))
  else (D_X12_comesOut_229 N k68 h3 l0 l2 l3 l4 l5 l6 l7 (v5 / v7) (1 : Int32)))
set_option maxHeartbeats 4000000 in
set_option maxRecDepth 100000 in
theorem T_X12_comesOut_165 {P : mh_E → Prop} {N d : Nat} (hd : 4 ≤ d) {z : mh_H} {k68 : mh_H → Nat → Int32 → Int32 → Int32 → Int32 → Int32 → Int32 → Option mh_H} (hk68 : ∀ (h : mh_H) (l0 : Nat) (l2 : Int32) (l3 : Int32) (l4 : Int32) (l5 : Int32) (l6 : Int32) (l7 : Int32), k68 h l0 l2 l3 l4 l5 l6 l7 = some z → mh_go P d mX12_comesOut 68 [some (.ref l0), none, some (.int l2), some (.int l3), some (.int l4), some (.int l5), some (.int l6), some (.int l7), none, none, none] [] h none z) {h : mh_H} {l0 : Nat} {l2 : Int32} {l3 : Int32} {l4 : Int32} {l5 : Int32} {l6 : Int32} {l7 : Int32} {l8 : Int32} (hq : D_X12_comesOut_165 N k68 h l0 l2 l3 l4 l5 l6 l7 l8 = some z) : mh_go P d mX12_comesOut 165 [some (.ref l0), none, some (.int l2), some (.int l3), some (.int l4), some (.int l5), some (.int l6), some (.int l7), some (.int l8), none, none] [] h none z := by
  unfold D_X12_comesOut_165 at hq
  refine st_iload (pc := 165) dX12_comesOut_165 rfl ?_
  refine bd_if_eq (pc := 167) (tgt := 248) hq dX12_comesOut_167 (by decide) (fun _ hq => ?_) (fun _ hq => ?_)
  ·
    exact T_X12_comesOut_248 hd hk68 hq
  ·
    refine st_aload_n (pc := 170) dX12_comesOut_170 rfl ?_
    refine bd_getr (pc := 171) hq dX12_comesOut_171 fl_12_9_12 rfl (fun v1 hq => ?_)
    refine st_iload_n (pc := 174) dX12_comesOut_174 rfl ?_
    refine st_iconst (pc := 175) (v := (5 : Int32)) dX12_comesOut_175 rfl ?_
    refine st_iadd (pc := 176) dX12_comesOut_176 ?_
    refine st_iload (pc := 177) dX12_comesOut_177 rfl ?_
    refine st_iadd (pc := 179) dX12_comesOut_179 ?_
    refine st_dup2 (pc := 180) dX12_comesOut_180 rfl rfl ?_
    refine bd_iald (pc := 181) hq dX12_comesOut_181 (fun v2 hq => ?_)
    refine st_iload (pc := 182) dX12_comesOut_182 rfl ?_
    refine st_iadd (pc := 184) dX12_comesOut_184 ?_
    refine bd_iast (pc := 185) hq dX12_comesOut_185 (fun h3 hq => ?_)
    refine st_aload_n (pc := 186) dX12_comesOut_186 rfl ?_
    refine bd_getr (pc := 187) hq dX12_comesOut_187 fl_12_9_12 rfl (fun v4 hq => ?_)
    refine st_iload_n (pc := 190) dX12_comesOut_190 rfl ?_
    refine st_iconst (pc := 191) (v := (5 : Int32)) dX12_comesOut_191 rfl ?_
    refine st_iadd (pc := 192) dX12_comesOut_192 ?_
    refine st_iload (pc := 193) dX12_comesOut_193 rfl ?_
    refine st_iadd (pc := 195) dX12_comesOut_195 ?_
    refine bd_iald (pc := 196) hq dX12_comesOut_196 (fun v5 hq => ?_)
    refine st_istore (pc := 197) (lv' := [some (.ref l0), none, some (.int l2), some (.int l3), some (.int l4), some (.int l5), some (.int l6), some (.int l7), some (.int l8), some (.int v5), none]) dX12_comesOut_197 rfl (by decide) rfl ?_
    refine st_iload (pc := 199) dX12_comesOut_199 rfl ?_
    refine st_aload_n (pc := 201) dX12_comesOut_201 rfl ?_
    refine bd_getr (pc := 202) hq dX12_comesOut_202 fl_12_9_12 rfl (fun v6 hq => ?_)
    refine st_iload_n (pc := 205) dX12_comesOut_205 rfl ?_
    refine st_iconst (pc := 206) (v := (4 : Int32)) dX12_comesOut_206 rfl ?_
    refine st_iadd (pc := 207) dX12_comesOut_207 ?_
    refine bd_iald (pc := 208) hq dX12_comesOut_208 (fun v7 hq => ?_)
    refine bd_idiv (pc := 209) hq dX12_comesOut_209 (fun hq => ?_)
    refine st_iload (pc := 210) dX12_comesOut_210 rfl ?_
    refine st_aload_n (pc := 212) dX12_comesOut_212 rfl ?_
    refine bd_getr (pc := 213) hq dX12_comesOut_213 fl_12_9_12 rfl (fun v8 hq => ?_)
    refine st_iload_n (pc := 216) dX12_comesOut_216 rfl ?_
    refine st_iconst (pc := 217) (v := (4 : Int32)) dX12_comesOut_217 rfl ?_
    refine st_iadd (pc := 218) dX12_comesOut_218 ?_
    refine bd_iald (pc := 219) hq dX12_comesOut_219 (fun v9 hq => ?_)
    refine bd_irem (pc := 220) hq dX12_comesOut_220 (fun hq => ?_)
    refine bd_if_le (pc := 221) (tgt := 228) hq dX12_comesOut_221 (by decide) (fun _ hq => ?_) (fun _ hq => ?_)
    ·
      refine st_iconst (pc := 228) (v := (0 : Int32)) dX12_comesOut_228 rfl ?_
      refine st_lesS (lv' := [some (.ref l0), none, some (.int l2), some (.int l3), some (.int l4), some (.int l5), some (.int l6), some (.int l7), none, none, none]) ⟨Or.inr rfl, Or.inr rfl, Or.inr rfl, Or.inr rfl, Or.inr rfl, Or.inr rfl, Or.inr rfl, Or.inr rfl, Or.inl rfl, Or.inl rfl, Or.inr rfl, trivial⟩ ?_
      exact T_X12_comesOut_229 hd hk68 hq
    ·
      refine st_iconst (pc := 224) (v := (1 : Int32)) dX12_comesOut_224 rfl ?_
      refine st_goto (pc := 225) (tgt := 229) dX12_comesOut_225 (by decide) ?_
      refine st_lesS (lv' := [some (.ref l0), none, some (.int l2), some (.int l3), some (.int l4), some (.int l5), some (.int l6), some (.int l7), none, none, none]) ⟨Or.inr rfl, Or.inr rfl, Or.inr rfl, Or.inr rfl, Or.inr rfl, Or.inr rfl, Or.inr rfl, Or.inr rfl, Or.inl rfl, Or.inl rfl, Or.inr rfl, trivial⟩ ?_
      exact T_X12_comesOut_229 hd hk68 hq
def D_X12_comesOut_134 (N : Nat) (k68 : mh_H → Nat → Int32 → Int32 → Int32 → Int32 → Int32 → Int32 → Option mh_H) (h : mh_H) (l0 : Nat) (l2 : Int32) (l3 : Int32) (l4 : Int32) (l5 : Int32) (l6 : Int32) (l7 : Int32) (l8 : Int32) (s0 : Int32) (s1 : Int32) : Option mh_H :=
  dN (100 : Int32) <|
  (gR h 12 l0 0).bind fun v1 =>
  (D_X12_stuffAt N h (l7 - (1 : Int32)) (3 : Int32)).bind fun q2 =>
  (aI q2.2 v1 q2.1).bind fun v3 =>
  (uI q2.2 v1 q2.1 (v3 + ((s0 * s1) / (100 : Int32)))).bind fun h4 =>
  D_X12_comesOut_165 N k68 h4 l0 l2 l3 l4 l5 l6 l7 (l8 - ((s0 * s1) / (100 : Int32)))
set_option maxHeartbeats 4000000 in
set_option maxRecDepth 100000 in
theorem T_X12_comesOut_134 {P : mh_E → Prop} {N d : Nat} (hd : 4 ≤ d) {z : mh_H} {k68 : mh_H → Nat → Int32 → Int32 → Int32 → Int32 → Int32 → Int32 → Option mh_H} (hk68 : ∀ (h : mh_H) (l0 : Nat) (l2 : Int32) (l3 : Int32) (l4 : Int32) (l5 : Int32) (l6 : Int32) (l7 : Int32), k68 h l0 l2 l3 l4 l5 l6 l7 = some z → mh_go P d mX12_comesOut 68 [some (.ref l0), none, some (.int l2), some (.int l3), some (.int l4), some (.int l5), some (.int l6), some (.int l7), none, none, none] [] h none z) {h : mh_H} {l0 : Nat} {l2 : Int32} {l3 : Int32} {l4 : Int32} {l5 : Int32} {l6 : Int32} {l7 : Int32} {l8 : Int32} {s0 : Int32} {s1 : Int32} (hq : D_X12_comesOut_134 N k68 h l0 l2 l3 l4 l5 l6 l7 l8 s0 s1 = some z) : mh_go P d mX12_comesOut 134 [some (.ref l0), none, some (.int l2), some (.int l3), some (.int l4), some (.int l5), some (.int l6), some (.int l7), some (.int l8), none, none] [.int s1, .int s0] h none z := by
  unfold D_X12_comesOut_134 at hq
  refine st_imul (pc := 134) dX12_comesOut_134 ?_
  refine st_bipush (pc := 135) (v := (100 : Int32)) dX12_comesOut_135 (by decide) ?_
  refine bd_idiv (pc := 137) hq dX12_comesOut_137 (fun hq => ?_)
  refine st_istore (pc := 138) (lv' := [some (.ref l0), none, some (.int l2), some (.int l3), some (.int l4), some (.int l5), some (.int l6), some (.int l7), some (.int l8), none, some (.int ((s0 * s1) / (100 : Int32)))]) dX12_comesOut_138 rfl (by decide) rfl ?_
  refine st_aload_n (pc := 140) dX12_comesOut_140 rfl ?_
  refine bd_getr (pc := 141) hq dX12_comesOut_141 fl_12_9_12 rfl (fun v1 hq => ?_)
  refine st_iload (pc := 144) dX12_comesOut_144 rfl ?_
  refine st_iconst (pc := 146) (v := (1 : Int32)) dX12_comesOut_146 rfl ?_
  refine st_isub (pc := 147) dX12_comesOut_147 ?_
  refine st_iconst (pc := 148) (v := (3 : Int32)) dX12_comesOut_148 rfl ?_
  obtain ⟨q2, e2, hq⟩ := mh_ob hq
  refine st_invS (pc := 149) (Y := mX12_stuffAt) (vs := [.int (l7 - (1 : Int32)), .int (3 : Int32)]) (rest := [.ref v1]) (st2 := [.int q2.1, .ref v1]) dX12_comesOut_149 okX12_stuffAt wd_1347 wd_1348 pdX12_stuffAt rfl rfl rfl rfl (Nat.le_trans (by decide) hd) (Nat.le_of_ble_eq_true rfl) (T_X12_stuffAt (Nat.le_refl _) e2) rfl ?_
  refine st_dup2 (pc := 152) dX12_comesOut_152 rfl rfl ?_
  refine bd_iald (pc := 153) hq dX12_comesOut_153 (fun v3 hq => ?_)
  refine st_iload (pc := 154) dX12_comesOut_154 rfl ?_
  refine st_iadd (pc := 156) dX12_comesOut_156 ?_
  refine bd_iast (pc := 157) hq dX12_comesOut_157 (fun h4 hq => ?_)
  refine st_iload (pc := 158) dX12_comesOut_158 rfl ?_
  refine st_iload (pc := 160) dX12_comesOut_160 rfl ?_
  refine st_isub (pc := 162) dX12_comesOut_162 ?_
  refine st_istore (pc := 163) (lv' := [some (.ref l0), none, some (.int l2), some (.int l3), some (.int l4), some (.int l5), some (.int l6), some (.int l7), some (.int (l8 - ((s0 * s1) / (100 : Int32)))), none, some (.int ((s0 * s1) / (100 : Int32)))]) dX12_comesOut_163 rfl (by decide) rfl ?_
  refine st_lesS (lv' := [some (.ref l0), none, some (.int l2), some (.int l3), some (.int l4), some (.int l5), some (.int l6), some (.int l7), some (.int (l8 - ((s0 * s1) / (100 : Int32)))), none, none]) ⟨Or.inr rfl, Or.inr rfl, Or.inr rfl, Or.inr rfl, Or.inr rfl, Or.inr rfl, Or.inr rfl, Or.inr rfl, Or.inr rfl, Or.inr rfl, Or.inl rfl, trivial⟩ ?_
  exact T_X12_comesOut_165 hd hk68 hq
def D_X12_comesOut_68 (N : Nat) : Nat → mh_H → Nat → Int32 → Int32 → Int32 → Int32 → Int32 → Int32 → Option mh_H
  | 0, _, _, _, _, _, _, _, _ => none
  | F + 1, h, l0, l2, l3, l4, l5, l6, l7 =>
    if (5 : Int32) ≤ l7 then (some h)
    else ((gR h 12 l0 0).bind fun v1 =>
    (aI h v1 (l6 + l7)).bind fun v2 =>
    (gR h 12 l0 0).bind fun v3 =>
    (uI h v3 (l6 + l7) (0 : Int32)).bind fun h4 =>
    if l7 ≤ 0 then (D_X12_comesOut_165 N (D_X12_comesOut_68 N F) h4 l0 l2 l3 l4 l5 l6 l7 v2)
    else ((gR h4 12 l0 0).bind fun v5 =>
    (aI h4 v5 (((10 : Int32) + l7) - (1 : Int32))).bind fun v6 =>
    if (100 : Int32) ≤ (v6 * l3) then (D_X12_comesOut_134 N (D_X12_comesOut_68 N F) h4 l0 l2 l3 l4 l5 l6 l7 v2 v2 (100 : Int32))
    else (D_X12_comesOut_134 N (D_X12_comesOut_68 N F) h4 l0 l2 l3 l4 l5 l6 l7 v2 v2 (v6 * l3))))
set_option maxHeartbeats 4000000 in
set_option maxRecDepth 100000 in
theorem T_X12_comesOut_68 {P : mh_E → Prop} {N d : Nat} (hd : 4 ≤ d) {z : mh_H} : ∀ (F : Nat) (h : mh_H) (l0 : Nat) (l2 : Int32) (l3 : Int32) (l4 : Int32) (l5 : Int32) (l6 : Int32) (l7 : Int32), D_X12_comesOut_68 N F h l0 l2 l3 l4 l5 l6 l7 = some z → mh_go P d mX12_comesOut 68 [some (.ref l0), none, some (.int l2), some (.int l3), some (.int l4), some (.int l5), some (.int l6), some (.int l7), none, none, none] [] h none z := by
  intro F
  induction F with
  | zero => intro h l0 l2 l3 l4 l5 l6 l7 hq; rw [D_X12_comesOut_68] at hq; cases hq
  | succ F ih =>
    intro h l0 l2 l3 l4 l5 l6 l7 hq
    rw [D_X12_comesOut_68] at hq
    refine st_iload (pc := 68) dX12_comesOut_68 rfl ?_
    refine st_iconst (pc := 70) (v := (5 : Int32)) dX12_comesOut_70 rfl ?_
    refine bd_icmp_ge (pc := 71) (tgt := 283) hq dX12_comesOut_71 (by decide) (fun _ hq => ?_) (fun _ hq => ?_)
    ·
      exact bd_vret (pc := 283) hq dX12_comesOut_283 rfl
    ·
      refine st_aload_n (pc := 74) dX12_comesOut_74 rfl ?_
      refine bd_getr (pc := 75) hq dX12_comesOut_75 fl_12_9_12 rfl (fun v1 hq => ?_)
      refine st_iload (pc := 78) dX12_comesOut_78 rfl ?_
      refine st_iload (pc := 80) dX12_comesOut_80 rfl ?_
      refine st_iadd (pc := 82) dX12_comesOut_82 ?_
      refine bd_iald (pc := 83) hq dX12_comesOut_83 (fun v2 hq => ?_)
      refine st_istore (pc := 84) (lv' := [some (.ref l0), none, some (.int l2), some (.int l3), some (.int l4), some (.int l5), some (.int l6), some (.int l7), some (.int v2), none, none]) dX12_comesOut_84 rfl (by decide) rfl ?_
      refine st_aload_n (pc := 86) dX12_comesOut_86 rfl ?_
      refine bd_getr (pc := 87) hq dX12_comesOut_87 fl_12_9_12 rfl (fun v3 hq => ?_)
      refine st_iload (pc := 90) dX12_comesOut_90 rfl ?_
      refine st_iload (pc := 92) dX12_comesOut_92 rfl ?_
      refine st_iadd (pc := 94) dX12_comesOut_94 ?_
      refine st_iconst (pc := 95) (v := (0 : Int32)) dX12_comesOut_95 rfl ?_
      refine bd_iast (pc := 96) hq dX12_comesOut_96 (fun h4 hq => ?_)
      refine st_iload (pc := 97) dX12_comesOut_97 rfl ?_
      refine bd_if_le (pc := 99) (tgt := 165) hq dX12_comesOut_99 (by decide) (fun _ hq => ?_) (fun _ hq => ?_)
      ·
        exact T_X12_comesOut_165 hd ih hq
      ·
        refine st_aload_n (pc := 102) dX12_comesOut_102 rfl ?_
        refine bd_getr (pc := 103) hq dX12_comesOut_103 fl_12_9_12 rfl (fun v5 hq => ?_)
        refine st_bipush (pc := 106) (v := (10 : Int32)) dX12_comesOut_106 (by decide) ?_
        refine st_iload (pc := 108) dX12_comesOut_108 rfl ?_
        refine st_iadd (pc := 110) dX12_comesOut_110 ?_
        refine st_iconst (pc := 111) (v := (1 : Int32)) dX12_comesOut_111 rfl ?_
        refine st_isub (pc := 112) dX12_comesOut_112 ?_
        refine bd_iald (pc := 113) hq dX12_comesOut_113 (fun v6 hq => ?_)
        refine st_iload_n (pc := 114) dX12_comesOut_114 rfl ?_
        refine st_imul (pc := 115) dX12_comesOut_115 ?_
        refine st_istore (pc := 116) (lv' := [some (.ref l0), none, some (.int l2), some (.int l3), some (.int l4), some (.int l5), some (.int l6), some (.int l7), some (.int v2), some (.int (v6 * l3)), none]) dX12_comesOut_116 rfl (by decide) rfl ?_
        refine st_iload (pc := 118) dX12_comesOut_118 rfl ?_
        refine st_iload (pc := 120) dX12_comesOut_120 rfl ?_
        refine st_bipush (pc := 122) (v := (100 : Int32)) dX12_comesOut_122 (by decide) ?_
        refine bd_icmp_ge (pc := 124) (tgt := 132) hq dX12_comesOut_124 (by decide) (fun _ hq => ?_) (fun _ hq => ?_)
        ·
          refine st_bipush (pc := 132) (v := (100 : Int32)) dX12_comesOut_132 (by decide) ?_
          refine st_lesS (lv' := [some (.ref l0), none, some (.int l2), some (.int l3), some (.int l4), some (.int l5), some (.int l6), some (.int l7), some (.int v2), none, none]) ⟨Or.inr rfl, Or.inr rfl, Or.inr rfl, Or.inr rfl, Or.inr rfl, Or.inr rfl, Or.inr rfl, Or.inr rfl, Or.inr rfl, Or.inl rfl, Or.inr rfl, trivial⟩ ?_
          exact T_X12_comesOut_134 hd ih hq
        ·
          refine st_iload (pc := 127) dX12_comesOut_127 rfl ?_
          refine st_goto (pc := 129) (tgt := 134) dX12_comesOut_129 (by decide) ?_
          refine st_lesS (lv' := [some (.ref l0), none, some (.int l2), some (.int l3), some (.int l4), some (.int l5), some (.int l6), some (.int l7), some (.int v2), none, none]) ⟨Or.inr rfl, Or.inr rfl, Or.inr rfl, Or.inr rfl, Or.inr rfl, Or.inr rfl, Or.inr rfl, Or.inr rfl, Or.inr rfl, Or.inl rfl, Or.inr rfl, trivial⟩ ?_
          exact T_X12_comesOut_134 hd ih hq
def D_X12_comesOut_39 (N : Nat) (h : mh_H) (l0 : Nat) (l2 : Int32) (l3 : Int32) (l4 : Int32) (s0 : Int32) : Option mh_H :=
  (gR h 12 l0 0).bind fun v1 =>
  (aI h v1 (0 : Int32)).bind fun v2 =>
  dN (41 : Int32) <|
  mh_let ((l2 + (10 : Int32)) + ((5 : Int32) * (((v2 - l3) + (410 : Int32)) - ((v2 - l3) + (410 : Int32)) / (41 : Int32) * (41 : Int32)))) fun v3 =>
  D_X12_comesOut_68 N N h l0 l2 l3 l4 s0 v3 (0 : Int32)
set_option maxHeartbeats 4000000 in
set_option maxRecDepth 100000 in
theorem T_X12_comesOut_39 {P : mh_E → Prop} {N d : Nat} (hd : 4 ≤ d) {z : mh_H} {h : mh_H} {l0 : Nat} {l2 : Int32} {l3 : Int32} {l4 : Int32} {s0 : Int32} (hq : D_X12_comesOut_39 N h l0 l2 l3 l4 s0 = some z) : mh_go P d mX12_comesOut 39 [some (.ref l0), none, some (.int l2), some (.int l3), some (.int l4), none, none, none, none, none, none] [.int s0] h none z := by
  unfold D_X12_comesOut_39 at hq
  refine st_istore (pc := 39) (lv' := [some (.ref l0), none, some (.int l2), some (.int l3), some (.int l4), some (.int s0), none, none, none, none, none]) dX12_comesOut_39 rfl (by decide) rfl ?_
  refine st_iload_n (pc := 41) dX12_comesOut_41 rfl ?_
  refine st_bipush (pc := 42) (v := (10 : Int32)) dX12_comesOut_42 (by decide) ?_
  refine st_iadd (pc := 44) dX12_comesOut_44 ?_
  refine st_iconst (pc := 45) (v := (5 : Int32)) dX12_comesOut_45 rfl ?_
  refine st_aload_n (pc := 46) dX12_comesOut_46 rfl ?_
  refine bd_getr (pc := 47) hq dX12_comesOut_47 fl_12_9_12 rfl (fun v1 hq => ?_)
  refine st_iconst (pc := 50) (v := (0 : Int32)) dX12_comesOut_50 rfl ?_
  refine bd_iald (pc := 51) hq dX12_comesOut_51 (fun v2 hq => ?_)
  refine st_iload_n (pc := 52) dX12_comesOut_52 rfl ?_
  refine st_isub (pc := 53) dX12_comesOut_53 ?_
  refine st_sipush (pc := 54) (v := (410 : Int32)) dX12_comesOut_54 (by decide) ?_
  refine st_iadd (pc := 57) dX12_comesOut_57 ?_
  refine st_bipush (pc := 58) (v := (41 : Int32)) dX12_comesOut_58 (by decide) ?_
  refine bd_irem (pc := 60) hq dX12_comesOut_60 (fun hq => ?_)
  refine st_imul (pc := 61) dX12_comesOut_61 ?_
  refine st_iadd (pc := 62) dX12_comesOut_62 ?_
  refine bd_leti hq (fun v3 hq => ?_)
  refine st_istore (pc := 63) (lv' := [some (.ref l0), none, some (.int l2), some (.int l3), some (.int l4), some (.int s0), some (.int v3), none, none, none, none]) dX12_comesOut_63 rfl (by decide) rfl ?_
  refine st_iconst (pc := 65) (v := (0 : Int32)) dX12_comesOut_65 rfl ?_
  refine st_istore (pc := 66) (lv' := [some (.ref l0), none, some (.int l2), some (.int l3), some (.int l4), some (.int s0), some (.int v3), some (.int (0 : Int32)), none, none, none]) dX12_comesOut_66 rfl (by decide) rfl ?_
  exact T_X12_comesOut_68 hd N _ _ _ _ _ _ _ _ hq
def D_X12_comesOut (N : Nat) (h : mh_H) (l0 : Nat) (l1 : Int32) : Option mh_H :=
  (D_X12_way N h l1).bind fun q1 =>
  kO q1.2 12 l0 <|
  (D_X12_takes N q1.2 l0 l1).bind fun q2 =>
  (gR q2.2 12 l0 0).bind fun v3 =>
  (aI q2.2 v3 (q1.1 + (2 : Int32))).bind fun v4 =>
  (D_X12_joint N q2.2 v4).bind fun q5 =>
  (gR q5.2 12 l0 0).bind fun v6 =>
  (aI q5.2 v6 q1.1).bind fun v7 =>
  if v7 = (4 : Int32) then (D_X12_comesOut_39 N q5.2 l0 q1.1 q2.1 q5.1 (1 : Int32))
  else (D_X12_comesOut_39 N q5.2 l0 q1.1 q2.1 q5.1 (0 : Int32))
set_option maxHeartbeats 4000000 in
set_option maxRecDepth 100000 in
theorem T_X12_comesOut {P : mh_E → Prop} {N d : Nat} (hd : 4 ≤ d) {z : mh_H} {h : mh_H} {l0 : Nat} {l1 : Int32} (hq : D_X12_comesOut N h l0 l1 = some z) : mh_go P d mX12_comesOut 0 [some (.ref l0), some (.int l1), none, none, none, none, none, none, none, none, none] [] h none z := by
  unfold D_X12_comesOut at hq
  refine st_iload_n (pc := 0) dX12_comesOut_0 rfl ?_
  obtain ⟨q1, e1, hq⟩ := mh_ob hq
  refine st_invS (pc := 1) (Y := mX12_way) (vs := [.int l1]) (rest := []) (st2 := [.int q1.1]) dX12_comesOut_1 okX12_way wd_1282 wd_1283 pdX12_way rfl rfl rfl rfl (Nat.le_trans (by decide) hd) (Nat.le_of_ble_eq_true rfl) (T_X12_way (Nat.le_refl _) e1) rfl ?_
  refine st_istore_n (pc := 4) (lv' := [some (.ref l0), some (.int l1), some (.int q1.1), none, none, none, none, none, none, none, none]) dX12_comesOut_4 rfl (by decide) rfl ?_
  refine st_aload_n (pc := 5) dX12_comesOut_5 rfl ?_
  refine st_iload_n (pc := 6) dX12_comesOut_6 rfl ?_
  obtain ⟨⟨hbq2, hkq2⟩, hq⟩ := mh_oi hq
  obtain ⟨q2, e2, hq⟩ := mh_ob hq
  refine st_invV (pc := 7) (ci := 12) (vs := [.int l1]) (rest := []) (st2 := [.int q2.1]) dX12_comesOut_7 okX12_takes (by decide) hkq2 hbq2 wd_1299 wd_1301 wp_40 pdX12_takes rfl rfl rfl rfl (Nat.le_trans (by decide) hd) (Nat.le_of_ble_eq_true rfl) (T_X12_takes (Nat.le_refl _) e2) rfl ?_
  refine st_istore_n (pc := 10) (lv' := [some (.ref l0), some (.int l1), some (.int q1.1), some (.int q2.1), none, none, none, none, none, none, none]) dX12_comesOut_10 rfl (by decide) rfl ?_
  refine st_aload_n (pc := 11) dX12_comesOut_11 rfl ?_
  refine bd_getr (pc := 12) hq dX12_comesOut_12 fl_12_9_12 rfl (fun v3 hq => ?_)
  refine st_iload_n (pc := 15) dX12_comesOut_15 rfl ?_
  refine st_iconst (pc := 16) (v := (2 : Int32)) dX12_comesOut_16 rfl ?_
  refine st_iadd (pc := 17) dX12_comesOut_17 ?_
  refine bd_iald (pc := 18) hq dX12_comesOut_18 (fun v4 hq => ?_)
  obtain ⟨q5, e5, hq⟩ := mh_ob hq
  refine st_invS (pc := 19) (Y := mX12_joint) (vs := [.int v4]) (rest := []) (st2 := [.int q5.1]) dX12_comesOut_19 okX12_joint wd_1252 wd_1253 pdX12_joint rfl rfl rfl rfl (Nat.le_trans (by decide) hd) (Nat.le_of_ble_eq_true rfl) (T_X12_joint (Nat.le_refl _) e5) rfl ?_
  refine st_istore (pc := 22) (lv' := [some (.ref l0), some (.int l1), some (.int q1.1), some (.int q2.1), some (.int q5.1), none, none, none, none, none, none]) dX12_comesOut_22 rfl (by decide) rfl ?_
  refine st_aload_n (pc := 24) dX12_comesOut_24 rfl ?_
  refine bd_getr (pc := 25) hq dX12_comesOut_25 fl_12_9_12 rfl (fun v6 hq => ?_)
  refine st_iload_n (pc := 28) dX12_comesOut_28 rfl ?_
  refine bd_iald (pc := 29) hq dX12_comesOut_29 (fun v7 hq => ?_)
  refine st_iconst (pc := 30) (v := (4 : Int32)) dX12_comesOut_30 rfl ?_
  refine bd_icmp_ne (pc := 31) (tgt := 38) hq dX12_comesOut_31 (by decide) (fun _ hq => ?_) (fun _ hq => ?_)
  ·
    refine st_iconst (pc := 34) (v := (1 : Int32)) dX12_comesOut_34 rfl ?_
    refine st_goto (pc := 35) (tgt := 39) dX12_comesOut_35 (by decide) ?_
    refine st_lesS (lv' := [some (.ref l0), none, some (.int q1.1), some (.int q2.1), some (.int q5.1), none, none, none, none, none, none]) ⟨Or.inr rfl, Or.inl rfl, Or.inr rfl, Or.inr rfl, Or.inr rfl, Or.inr rfl, Or.inr rfl, Or.inr rfl, Or.inr rfl, Or.inr rfl, Or.inr rfl, trivial⟩ ?_
    exact T_X12_comesOut_39 hd hq
  ·
    refine st_iconst (pc := 38) (v := (0 : Int32)) dX12_comesOut_38 rfl ?_
    refine st_lesS (lv' := [some (.ref l0), none, some (.int q1.1), some (.int q2.1), some (.int q5.1), none, none, none, none, none, none]) ⟨Or.inr rfl, Or.inl rfl, Or.inr rfl, Or.inr rfl, Or.inr rfl, Or.inr rfl, Or.inr rfl, Or.inr rfl, Or.inr rfl, Or.inr rfl, Or.inr rfl, trivial⟩ ?_
    exact T_X12_comesOut_39 hd hq
-- HoleWaterModel.rises(I)V
theorem dX12_rises_124 : decode cX12_rises 124 = .ok (.invokestatic 123, 3) := by decide +kernel
theorem dX12_rises_127 : decode cX12_rises 127 = .ok (.dup2, 1) := by decide +kernel
theorem dX12_rises_128 : decode cX12_rises 128 = .ok (.iaload, 1) := by decide +kernel
theorem dX12_rises_129 : decode cX12_rises 129 = .ok (.iload 5, 2) := by decide +kernel
theorem dX12_rises_131 : decode cX12_rises 131 = .ok (.iadd, 1) := by decide +kernel
theorem dX12_rises_132 : decode cX12_rises 132 = .ok (.iastore, 1) := by decide +kernel
theorem dX12_rises_133 : decode cX12_rises 133 = .ok (.aload_n 0, 1) := by decide +kernel
theorem dX12_rises_134 : decode cX12_rises 134 = .ok (.getfield 9, 3) := by decide +kernel
theorem dX12_rises_137 : decode cX12_rises 137 = .ok (.iload_n 2, 1) := by decide +kernel
theorem dX12_rises_138 : decode cX12_rises 138 = .ok (.bipush 7, 2) := by decide +kernel
theorem dX12_rises_140 : decode cX12_rises 140 = .ok (.iadd, 1) := by decide +kernel
theorem dX12_rises_141 : decode cX12_rises 141 = .ok (.iload 4, 2) := by decide +kernel
theorem dX12_rises_143 : decode cX12_rises 143 = .ok (.iadd, 1) := by decide +kernel
theorem dX12_rises_144 : decode cX12_rises 144 = .ok (.iconst 0, 1) := by decide +kernel
theorem dX12_rises_145 : decode cX12_rises 145 = .ok (.iastore, 1) := by decide +kernel
theorem dX12_rises_146 : decode cX12_rises 146 = .ok (.iinc 4 1, 3) := by decide +kernel
theorem dX12_rises_149 : decode cX12_rises 149 = .ok (.goto (-76), 3) := by decide +kernel
theorem dX12_rises_73 : decode cX12_rises 73 = .ok (.iload 4, 2) := by decide +kernel
theorem dX12_rises_75 : decode cX12_rises 75 = .ok (.iconst 4, 1) := by decide +kernel
theorem dX12_rises_76 : decode cX12_rises 76 = .ok (.if_icmp .ge 76, 3) := by decide +kernel
theorem dX12_rises_152 : decode cX12_rises 152 = .ok (.return_, 1) := by decide +kernel
theorem dX12_rises_79 : decode cX12_rises 79 = .ok (.aload_n 0, 1) := by decide +kernel
theorem dX12_rises_80 : decode cX12_rises 80 = .ok (.getfield 9, 3) := by decide +kernel
theorem dX12_rises_83 : decode cX12_rises 83 = .ok (.iload_n 2, 1) := by decide +kernel
theorem dX12_rises_84 : decode cX12_rises 84 = .ok (.bipush 7, 2) := by decide +kernel
theorem dX12_rises_86 : decode cX12_rises 86 = .ok (.iadd, 1) := by decide +kernel
theorem dX12_rises_87 : decode cX12_rises 87 = .ok (.iload 4, 2) := by decide +kernel
theorem dX12_rises_89 : decode cX12_rises 89 = .ok (.iadd, 1) := by decide +kernel
theorem dX12_rises_90 : decode cX12_rises 90 = .ok (.iaload, 1) := by decide +kernel
theorem dX12_rises_91 : decode cX12_rises 91 = .ok (.istore 5, 2) := by decide +kernel
theorem dX12_rises_93 : decode cX12_rises 93 = .ok (.aload_n 0, 1) := by decide +kernel
theorem dX12_rises_94 : decode cX12_rises 94 = .ok (.getfield 9, 3) := by decide +kernel
theorem dX12_rises_97 : decode cX12_rises 97 = .ok (.iload_n 3, 1) := by decide +kernel
theorem dX12_rises_98 : decode cX12_rises 98 = .ok (.iload 4, 2) := by decide +kernel
theorem dX12_rises_100 : decode cX12_rises 100 = .ok (.iadd, 1) := by decide +kernel
theorem dX12_rises_101 : decode cX12_rises 101 = .ok (.iload 5, 2) := by decide +kernel
theorem dX12_rises_103 : decode cX12_rises 103 = .ok (.iastore, 1) := by decide +kernel
theorem dX12_rises_104 : decode cX12_rises 104 = .ok (.aload_n 0, 1) := by decide +kernel
theorem dX12_rises_105 : decode cX12_rises 105 = .ok (.getfield 9, 3) := by decide +kernel
theorem dX12_rises_108 : decode cX12_rises 108 = .ok (.iload 4, 2) := by decide +kernel
theorem dX12_rises_110 : decode cX12_rises 110 = .ok (.aload_n 0, 1) := by decide +kernel
theorem dX12_rises_111 : decode cX12_rises 111 = .ok (.iload_n 1, 1) := by decide +kernel
theorem dX12_rises_112 : decode cX12_rises 112 = .ok (.invokevirtual 126, 3) := by decide +kernel
theorem dX12_rises_115 : decode cX12_rises 115 = .ok (.ifCond .eq 7, 3) := by decide +kernel
theorem dX12_rises_122 : decode cX12_rises 122 = .ok (.bipush 6, 2) := by decide +kernel
theorem dX12_rises_118 : decode cX12_rises 118 = .ok (.iconst 5, 1) := by decide +kernel
theorem dX12_rises_119 : decode cX12_rises 119 = .ok (.goto 5, 3) := by decide +kernel
theorem dX12_rises_0 : decode cX12_rises 0 = .ok (.iload_n 1, 1) := by decide +kernel
theorem dX12_rises_1 : decode cX12_rises 1 = .ok (.invokestatic 71, 3) := by decide +kernel
theorem dX12_rises_4 : decode cX12_rises 4 = .ok (.istore_n 2, 1) := by decide +kernel
theorem dX12_rises_5 : decode cX12_rises 5 = .ok (.sipush 5380, 3) := by decide +kernel
theorem dX12_rises_8 : decode cX12_rises 8 = .ok (.iconst 4, 1) := by decide +kernel
theorem dX12_rises_9 : decode cX12_rises 9 = .ok (.bipush 24, 2) := by decide +kernel
theorem dX12_rises_11 : decode cX12_rises 11 = .ok (.iload_n 1, 1) := by decide +kernel
theorem dX12_rises_12 : decode cX12_rises 12 = .ok (.imul, 1) := by decide +kernel
theorem dX12_rises_13 : decode cX12_rises 13 = .ok (.aload_n 0, 1) := by decide +kernel
theorem dX12_rises_14 : decode cX12_rises 14 = .ok (.getfield 9, 3) := by decide +kernel
theorem dX12_rises_17 : decode cX12_rises 17 = .ok (.iconst 0, 1) := by decide +kernel
theorem dX12_rises_18 : decode cX12_rises 18 = .ok (.iaload, 1) := by decide +kernel
theorem dX12_rises_19 : decode cX12_rises 19 = .ok (.bipush 24, 2) := by decide +kernel
theorem dX12_rises_21 : decode cX12_rises 21 = .ok (.irem, 1) := by decide +kernel
theorem dX12_rises_22 : decode cX12_rises 22 = .ok (.iadd, 1) := by decide +kernel
theorem dX12_rises_23 : decode cX12_rises 23 = .ok (.imul, 1) := by decide +kernel
theorem dX12_rises_24 : decode cX12_rises 24 = .ok (.iadd, 1) := by decide +kernel
theorem dX12_rises_25 : decode cX12_rises 25 = .ok (.istore_n 3, 1) := by decide +kernel
theorem dX12_rises_26 : decode cX12_rises 26 = .ok (.aload_n 0, 1) := by decide +kernel
theorem dX12_rises_27 : decode cX12_rises 27 = .ok (.getfield 9, 3) := by decide +kernel
theorem dX12_rises_30 : decode cX12_rises 30 = .ok (.iload_n 2, 1) := by decide +kernel
theorem dX12_rises_31 : decode cX12_rises 31 = .ok (.iconst 4, 1) := by decide +kernel
theorem dX12_rises_32 : decode cX12_rises 32 = .ok (.iadd, 1) := by decide +kernel
theorem dX12_rises_33 : decode cX12_rises 33 = .ok (.aload_n 0, 1) := by decide +kernel
theorem dX12_rises_34 : decode cX12_rises 34 = .ok (.getfield 9, 3) := by decide +kernel
theorem dX12_rises_37 : decode cX12_rises 37 = .ok (.iload_n 2, 1) := by decide +kernel
theorem dX12_rises_38 : decode cX12_rises 38 = .ok (.iconst 3, 1) := by decide +kernel
theorem dX12_rises_39 : decode cX12_rises 39 = .ok (.iadd, 1) := by decide +kernel
theorem dX12_rises_40 : decode cX12_rises 40 = .ok (.iaload, 1) := by decide +kernel
theorem dX12_rises_41 : decode cX12_rises 41 = .ok (.iastore, 1) := by decide +kernel
theorem dX12_rises_42 : decode cX12_rises 42 = .ok (.aload_n 0, 1) := by decide +kernel
theorem dX12_rises_43 : decode cX12_rises 43 = .ok (.getfield 9, 3) := by decide +kernel
theorem dX12_rises_46 : decode cX12_rises 46 = .ok (.iload_n 2, 1) := by decide +kernel
theorem dX12_rises_47 : decode cX12_rises 47 = .ok (.iconst 5, 1) := by decide +kernel
theorem dX12_rises_48 : decode cX12_rises 48 = .ok (.iadd, 1) := by decide +kernel
theorem dX12_rises_49 : decode cX12_rises 49 = .ok (.dup2, 1) := by decide +kernel
theorem dX12_rises_50 : decode cX12_rises 50 = .ok (.iaload, 1) := by decide +kernel
theorem dX12_rises_51 : decode cX12_rises 51 = .ok (.aload_n 0, 1) := by decide +kernel
theorem dX12_rises_52 : decode cX12_rises 52 = .ok (.getfield 9, 3) := by decide +kernel
theorem dX12_rises_55 : decode cX12_rises 55 = .ok (.iload_n 2, 1) := by decide +kernel
theorem dX12_rises_56 : decode cX12_rises 56 = .ok (.iconst 3, 1) := by decide +kernel
theorem dX12_rises_57 : decode cX12_rises 57 = .ok (.iadd, 1) := by decide +kernel
theorem dX12_rises_58 : decode cX12_rises 58 = .ok (.iaload, 1) := by decide +kernel
theorem dX12_rises_59 : decode cX12_rises 59 = .ok (.iadd, 1) := by decide +kernel
theorem dX12_rises_60 : decode cX12_rises 60 = .ok (.iastore, 1) := by decide +kernel
theorem dX12_rises_61 : decode cX12_rises 61 = .ok (.aload_n 0, 1) := by decide +kernel
theorem dX12_rises_62 : decode cX12_rises 62 = .ok (.getfield 9, 3) := by decide +kernel
theorem dX12_rises_65 : decode cX12_rises 65 = .ok (.iload_n 2, 1) := by decide +kernel
theorem dX12_rises_66 : decode cX12_rises 66 = .ok (.iconst 3, 1) := by decide +kernel
theorem dX12_rises_67 : decode cX12_rises 67 = .ok (.iadd, 1) := by decide +kernel
theorem dX12_rises_68 : decode cX12_rises 68 = .ok (.iconst 0, 1) := by decide +kernel
theorem dX12_rises_69 : decode cX12_rises 69 = .ok (.iastore, 1) := by decide +kernel
theorem dX12_rises_70 : decode cX12_rises 70 = .ok (.iconst 0, 1) := by decide +kernel
theorem dX12_rises_71 : decode cX12_rises 71 = .ok (.istore 4, 2) := by decide +kernel
def D_X12_rises_124 (N : Nat) (k73 : mh_H → Nat → Int32 → Int32 → Int32 → Int32 → Option mh_H) (h : mh_H) (l0 : Nat) (l1 : Int32) (l2 : Int32) (l3 : Int32) (l4 : Int32) (l5 : Int32) (s0 : Nat) (s1 : Int32) (s2 : Int32) : Option mh_H :=
  (D_X12_stuffAt N h s1 s2).bind fun q1 =>
  (aI q1.2 s0 q1.1).bind fun v2 =>
  (uI q1.2 s0 q1.1 (v2 + l5)).bind fun h3 =>
  (gR h3 12 l0 0).bind fun v4 =>
  (uI h3 v4 ((l2 + (7 : Int32)) + l4) (0 : Int32)).bind fun h5 =>
  k73 h5 l0 l1 l2 l3 (l4 + Int32.ofInt (1))
set_option maxHeartbeats 4000000 in
set_option maxRecDepth 100000 in
theorem T_X12_rises_124 {P : mh_E → Prop} {N d : Nat} (hd : 4 ≤ d) {z : mh_H} {k73 : mh_H → Nat → Int32 → Int32 → Int32 → Int32 → Option mh_H} (hk73 : ∀ (h : mh_H) (l0 : Nat) (l1 : Int32) (l2 : Int32) (l3 : Int32) (l4 : Int32), k73 h l0 l1 l2 l3 l4 = some z → mh_go P d mX12_rises 73 [some (.ref l0), some (.int l1), some (.int l2), some (.int l3), some (.int l4), none] [] h none z) {h : mh_H} {l0 : Nat} {l1 : Int32} {l2 : Int32} {l3 : Int32} {l4 : Int32} {l5 : Int32} {s0 : Nat} {s1 : Int32} {s2 : Int32} (hq : D_X12_rises_124 N k73 h l0 l1 l2 l3 l4 l5 s0 s1 s2 = some z) : mh_go P d mX12_rises 124 [some (.ref l0), some (.int l1), some (.int l2), some (.int l3), some (.int l4), some (.int l5)] [.int s2, .int s1, .ref s0] h none z := by
  unfold D_X12_rises_124 at hq
  obtain ⟨q1, e1, hq⟩ := mh_ob hq
  refine st_invS (pc := 124) (Y := mX12_stuffAt) (vs := [.int s1, .int s2]) (rest := [.ref s0]) (st2 := [.int q1.1, .ref s0]) dX12_rises_124 okX12_stuffAt wd_1347 wd_1348 pdX12_stuffAt rfl rfl rfl rfl (Nat.le_trans (by decide) hd) (Nat.le_of_ble_eq_true rfl) (T_X12_stuffAt (Nat.le_refl _) e1) rfl ?_
  refine st_dup2 (pc := 127) dX12_rises_127 rfl rfl ?_
  refine bd_iald (pc := 128) hq dX12_rises_128 (fun v2 hq => ?_)
  refine st_iload (pc := 129) dX12_rises_129 rfl ?_
  refine st_iadd (pc := 131) dX12_rises_131 ?_
  refine bd_iast (pc := 132) hq dX12_rises_132 (fun h3 hq => ?_)
  refine st_aload_n (pc := 133) dX12_rises_133 rfl ?_
  refine bd_getr (pc := 134) hq dX12_rises_134 fl_12_9_12 rfl (fun v4 hq => ?_)
  refine st_iload_n (pc := 137) dX12_rises_137 rfl ?_
  refine st_bipush (pc := 138) (v := (7 : Int32)) dX12_rises_138 (by decide) ?_
  refine st_iadd (pc := 140) dX12_rises_140 ?_
  refine st_iload (pc := 141) dX12_rises_141 rfl ?_
  refine st_iadd (pc := 143) dX12_rises_143 ?_
  refine st_iconst (pc := 144) (v := (0 : Int32)) dX12_rises_144 rfl ?_
  refine bd_iast (pc := 145) hq dX12_rises_145 (fun h5 hq => ?_)
  refine st_iinc (pc := 146) (lv' := [some (.ref l0), some (.int l1), some (.int l2), some (.int l3), some (.int (l4 + Int32.ofInt (1))), some (.int l5)]) dX12_rises_146 rfl rfl (by decide) rfl ?_
  refine st_goto (pc := 149) (tgt := 73) dX12_rises_149 (by decide) ?_
  refine st_lesS (lv' := [some (.ref l0), some (.int l1), some (.int l2), some (.int l3), some (.int (l4 + Int32.ofInt (1))), none]) ⟨Or.inr rfl, Or.inr rfl, Or.inr rfl, Or.inr rfl, Or.inr rfl, Or.inl rfl, trivial⟩ ?_
  exact hk73 _ _ _ _ _ _ hq
def D_X12_rises_73 (N : Nat) : Nat → mh_H → Nat → Int32 → Int32 → Int32 → Int32 → Option mh_H
  | 0, _, _, _, _, _, _ => none
  | F + 1, h, l0, l1, l2, l3, l4 =>
    if (4 : Int32) ≤ l4 then (some h)
    else ((gR h 12 l0 0).bind fun v1 =>
    (aI h v1 ((l2 + (7 : Int32)) + l4)).bind fun v2 =>
    (gR h 12 l0 0).bind fun v3 =>
    (uI h v3 (l3 + l4) v2).bind fun h4 =>
    (gR h4 12 l0 0).bind fun v5 =>
    kO h4 12 l0 <|
    (D_X12_isSpring N h4 l0 l1).bind fun q6 =>
    if q6.1 = 0 then (D_X12_rises_124 N (D_X12_rises_73 N F) q6.2 l0 l1 l2 l3 l4 v2 v5 l4 (6 : Int32))
    else (D_X12_rises_124 N (D_X12_rises_73 N F) q6.2 l0 l1 l2 l3 l4 v2 v5 l4 (5 : Int32)))
set_option maxHeartbeats 4000000 in
set_option maxRecDepth 100000 in
theorem T_X12_rises_73 {P : mh_E → Prop} {N d : Nat} (hd : 4 ≤ d) {z : mh_H} : ∀ (F : Nat) (h : mh_H) (l0 : Nat) (l1 : Int32) (l2 : Int32) (l3 : Int32) (l4 : Int32), D_X12_rises_73 N F h l0 l1 l2 l3 l4 = some z → mh_go P d mX12_rises 73 [some (.ref l0), some (.int l1), some (.int l2), some (.int l3), some (.int l4), none] [] h none z := by
  intro F
  induction F with
  | zero => intro h l0 l1 l2 l3 l4 hq; rw [D_X12_rises_73] at hq; cases hq
  | succ F ih =>
    intro h l0 l1 l2 l3 l4 hq
    rw [D_X12_rises_73] at hq
    refine st_iload (pc := 73) dX12_rises_73 rfl ?_
    refine st_iconst (pc := 75) (v := (4 : Int32)) dX12_rises_75 rfl ?_
    refine bd_icmp_ge (pc := 76) (tgt := 152) hq dX12_rises_76 (by decide) (fun _ hq => ?_) (fun _ hq => ?_)
    ·
      exact bd_vret (pc := 152) hq dX12_rises_152 rfl
    ·
      refine st_aload_n (pc := 79) dX12_rises_79 rfl ?_
      refine bd_getr (pc := 80) hq dX12_rises_80 fl_12_9_12 rfl (fun v1 hq => ?_)
      refine st_iload_n (pc := 83) dX12_rises_83 rfl ?_
      refine st_bipush (pc := 84) (v := (7 : Int32)) dX12_rises_84 (by decide) ?_
      refine st_iadd (pc := 86) dX12_rises_86 ?_
      refine st_iload (pc := 87) dX12_rises_87 rfl ?_
      refine st_iadd (pc := 89) dX12_rises_89 ?_
      refine bd_iald (pc := 90) hq dX12_rises_90 (fun v2 hq => ?_)
      refine st_istore (pc := 91) (lv' := [some (.ref l0), some (.int l1), some (.int l2), some (.int l3), some (.int l4), some (.int v2)]) dX12_rises_91 rfl (by decide) rfl ?_
      refine st_aload_n (pc := 93) dX12_rises_93 rfl ?_
      refine bd_getr (pc := 94) hq dX12_rises_94 fl_12_9_12 rfl (fun v3 hq => ?_)
      refine st_iload_n (pc := 97) dX12_rises_97 rfl ?_
      refine st_iload (pc := 98) dX12_rises_98 rfl ?_
      refine st_iadd (pc := 100) dX12_rises_100 ?_
      refine st_iload (pc := 101) dX12_rises_101 rfl ?_
      refine bd_iast (pc := 103) hq dX12_rises_103 (fun h4 hq => ?_)
      refine st_aload_n (pc := 104) dX12_rises_104 rfl ?_
      refine bd_getr (pc := 105) hq dX12_rises_105 fl_12_9_12 rfl (fun v5 hq => ?_)
      refine st_iload (pc := 108) dX12_rises_108 rfl ?_
      refine st_aload_n (pc := 110) dX12_rises_110 rfl ?_
      refine st_iload_n (pc := 111) dX12_rises_111 rfl ?_
      obtain ⟨⟨hbq6, hkq6⟩, hq⟩ := mh_oi hq
      obtain ⟨q6, e6, hq⟩ := mh_ob hq
      refine st_invV (pc := 112) (ci := 12) (vs := [.int l1]) (rest := [.int l4, .ref v5]) (st2 := [.int q6.1, .int l4, .ref v5]) dX12_rises_112 okX12_isSpring (by decide) hkq6 hbq6 wd_1372 wd_1374 wp_49 pdX12_isSpring rfl rfl rfl rfl (Nat.le_trans (by decide) hd) (Nat.le_of_ble_eq_true rfl) (T_X12_isSpring (Nat.le_refl _) e6) rfl ?_
      refine bd_if_eq (pc := 115) (tgt := 122) hq dX12_rises_115 (by decide) (fun _ hq => ?_) (fun _ hq => ?_)
      ·
        refine st_bipush (pc := 122) (v := (6 : Int32)) dX12_rises_122 (by decide) ?_
        exact T_X12_rises_124 hd ih hq
      ·
        refine st_iconst (pc := 118) (v := (5 : Int32)) dX12_rises_118 rfl ?_
        refine st_goto (pc := 119) (tgt := 124) dX12_rises_119 (by decide) ?_
        exact T_X12_rises_124 hd ih hq
def D_X12_rises (N : Nat) (h : mh_H) (l0 : Nat) (l1 : Int32) : Option mh_H :=
  (D_X12_joint N h l1).bind fun q1 =>
  (gR q1.2 12 l0 0).bind fun v2 =>
  (aI q1.2 v2 (0 : Int32)).bind fun v3 =>
  dN (24 : Int32) <|
  mh_let ((5380 : Int32) + ((4 : Int32) * (((24 : Int32) * l1) + (v3 - v3 / (24 : Int32) * (24 : Int32))))) fun v4 =>
  (gR q1.2 12 l0 0).bind fun v5 =>
  (gR q1.2 12 l0 0).bind fun v6 =>
  (aI q1.2 v6 (q1.1 + (3 : Int32))).bind fun v7 =>
  (uI q1.2 v5 (q1.1 + (4 : Int32)) v7).bind fun h8 =>
  (gR h8 12 l0 0).bind fun v9 =>
  (aI h8 v9 (q1.1 + (5 : Int32))).bind fun v10 =>
  (gR h8 12 l0 0).bind fun v11 =>
  (aI h8 v11 (q1.1 + (3 : Int32))).bind fun v12 =>
  (uI h8 v9 (q1.1 + (5 : Int32)) (v10 + v12)).bind fun h13 =>
  (gR h13 12 l0 0).bind fun v14 =>
  (uI h13 v14 (q1.1 + (3 : Int32)) (0 : Int32)).bind fun h15 =>
  D_X12_rises_73 N N h15 l0 l1 q1.1 v4 (0 : Int32)
set_option maxHeartbeats 4000000 in
set_option maxRecDepth 100000 in
theorem T_X12_rises {P : mh_E → Prop} {N d : Nat} (hd : 4 ≤ d) {z : mh_H} {h : mh_H} {l0 : Nat} {l1 : Int32} (hq : D_X12_rises N h l0 l1 = some z) : mh_go P d mX12_rises 0 [some (.ref l0), some (.int l1), none, none, none, none] [] h none z := by
  unfold D_X12_rises at hq
  refine st_iload_n (pc := 0) dX12_rises_0 rfl ?_
  obtain ⟨q1, e1, hq⟩ := mh_ob hq
  refine st_invS (pc := 1) (Y := mX12_joint) (vs := [.int l1]) (rest := []) (st2 := [.int q1.1]) dX12_rises_1 okX12_joint wd_1252 wd_1253 pdX12_joint rfl rfl rfl rfl (Nat.le_trans (by decide) hd) (Nat.le_of_ble_eq_true rfl) (T_X12_joint (Nat.le_refl _) e1) rfl ?_
  refine st_istore_n (pc := 4) (lv' := [some (.ref l0), some (.int l1), some (.int q1.1), none, none, none]) dX12_rises_4 rfl (by decide) rfl ?_
  refine st_sipush (pc := 5) (v := (5380 : Int32)) dX12_rises_5 (by decide) ?_
  refine st_iconst (pc := 8) (v := (4 : Int32)) dX12_rises_8 rfl ?_
  refine st_bipush (pc := 9) (v := (24 : Int32)) dX12_rises_9 (by decide) ?_
  refine st_iload_n (pc := 11) dX12_rises_11 rfl ?_
  refine st_imul (pc := 12) dX12_rises_12 ?_
  refine st_aload_n (pc := 13) dX12_rises_13 rfl ?_
  refine bd_getr (pc := 14) hq dX12_rises_14 fl_12_9_12 rfl (fun v2 hq => ?_)
  refine st_iconst (pc := 17) (v := (0 : Int32)) dX12_rises_17 rfl ?_
  refine bd_iald (pc := 18) hq dX12_rises_18 (fun v3 hq => ?_)
  refine st_bipush (pc := 19) (v := (24 : Int32)) dX12_rises_19 (by decide) ?_
  refine bd_irem (pc := 21) hq dX12_rises_21 (fun hq => ?_)
  refine st_iadd (pc := 22) dX12_rises_22 ?_
  refine st_imul (pc := 23) dX12_rises_23 ?_
  refine st_iadd (pc := 24) dX12_rises_24 ?_
  refine bd_leti hq (fun v4 hq => ?_)
  refine st_istore_n (pc := 25) (lv' := [some (.ref l0), some (.int l1), some (.int q1.1), some (.int v4), none, none]) dX12_rises_25 rfl (by decide) rfl ?_
  refine st_aload_n (pc := 26) dX12_rises_26 rfl ?_
  refine bd_getr (pc := 27) hq dX12_rises_27 fl_12_9_12 rfl (fun v5 hq => ?_)
  refine st_iload_n (pc := 30) dX12_rises_30 rfl ?_
  refine st_iconst (pc := 31) (v := (4 : Int32)) dX12_rises_31 rfl ?_
  refine st_iadd (pc := 32) dX12_rises_32 ?_
  refine st_aload_n (pc := 33) dX12_rises_33 rfl ?_
  refine bd_getr (pc := 34) hq dX12_rises_34 fl_12_9_12 rfl (fun v6 hq => ?_)
  refine st_iload_n (pc := 37) dX12_rises_37 rfl ?_
  refine st_iconst (pc := 38) (v := (3 : Int32)) dX12_rises_38 rfl ?_
  refine st_iadd (pc := 39) dX12_rises_39 ?_
  refine bd_iald (pc := 40) hq dX12_rises_40 (fun v7 hq => ?_)
  refine bd_iast (pc := 41) hq dX12_rises_41 (fun h8 hq => ?_)
  refine st_aload_n (pc := 42) dX12_rises_42 rfl ?_
  refine bd_getr (pc := 43) hq dX12_rises_43 fl_12_9_12 rfl (fun v9 hq => ?_)
  refine st_iload_n (pc := 46) dX12_rises_46 rfl ?_
  refine st_iconst (pc := 47) (v := (5 : Int32)) dX12_rises_47 rfl ?_
  refine st_iadd (pc := 48) dX12_rises_48 ?_
  refine st_dup2 (pc := 49) dX12_rises_49 rfl rfl ?_
  refine bd_iald (pc := 50) hq dX12_rises_50 (fun v10 hq => ?_)
  refine st_aload_n (pc := 51) dX12_rises_51 rfl ?_
  refine bd_getr (pc := 52) hq dX12_rises_52 fl_12_9_12 rfl (fun v11 hq => ?_)
  refine st_iload_n (pc := 55) dX12_rises_55 rfl ?_
  refine st_iconst (pc := 56) (v := (3 : Int32)) dX12_rises_56 rfl ?_
  refine st_iadd (pc := 57) dX12_rises_57 ?_
  refine bd_iald (pc := 58) hq dX12_rises_58 (fun v12 hq => ?_)
  refine st_iadd (pc := 59) dX12_rises_59 ?_
  refine bd_iast (pc := 60) hq dX12_rises_60 (fun h13 hq => ?_)
  refine st_aload_n (pc := 61) dX12_rises_61 rfl ?_
  refine bd_getr (pc := 62) hq dX12_rises_62 fl_12_9_12 rfl (fun v14 hq => ?_)
  refine st_iload_n (pc := 65) dX12_rises_65 rfl ?_
  refine st_iconst (pc := 66) (v := (3 : Int32)) dX12_rises_66 rfl ?_
  refine st_iadd (pc := 67) dX12_rises_67 ?_
  refine st_iconst (pc := 68) (v := (0 : Int32)) dX12_rises_68 rfl ?_
  refine bd_iast (pc := 69) hq dX12_rises_69 (fun h15 hq => ?_)
  refine st_iconst (pc := 70) (v := (0 : Int32)) dX12_rises_70 rfl ?_
  refine st_istore (pc := 71) (lv' := [some (.ref l0), some (.int l1), some (.int q1.1), some (.int v4), some (.int (0 : Int32)), none]) dX12_rises_71 rfl (by decide) rfl ?_
  exact T_X12_rises_73 hd N _ _ _ _ _ _ hq
-- HoleWaterModel.isFrom(II)Z
theorem dX12_isFrom_0 : decode cX12_isFrom 0 = .ok (.aload_n 0, 1) := by decide +kernel
theorem dX12_isFrom_1 : decode cX12_isFrom 1 = .ok (.getfield 9, 3) := by decide +kernel
theorem dX12_isFrom_4 : decode cX12_isFrom 4 = .ok (.iload_n 1, 1) := by decide +kernel
theorem dX12_isFrom_5 : decode cX12_isFrom 5 = .ok (.invokestatic 99, 3) := by decide +kernel
theorem dX12_isFrom_8 : decode cX12_isFrom 8 = .ok (.iconst 1, 1) := by decide +kernel
theorem dX12_isFrom_9 : decode cX12_isFrom 9 = .ok (.iadd, 1) := by decide +kernel
theorem dX12_isFrom_10 : decode cX12_isFrom 10 = .ok (.iaload, 1) := by decide +kernel
theorem dX12_isFrom_11 : decode cX12_isFrom 11 = .ok (.iload_n 2, 1) := by decide +kernel
theorem dX12_isFrom_12 : decode cX12_isFrom 12 = .ok (.if_icmp .ne 7, 3) := by decide +kernel
theorem dX12_isFrom_15 : decode cX12_isFrom 15 = .ok (.iconst 1, 1) := by decide +kernel
theorem dX12_isFrom_16 : decode cX12_isFrom 16 = .ok (.goto 4, 3) := by decide +kernel
theorem dX12_isFrom_20 : decode cX12_isFrom 20 = .ok (.ireturn, 1) := by decide +kernel
theorem dX12_isFrom_19 : decode cX12_isFrom 19 = .ok (.iconst 0, 1) := by decide +kernel
def D_X12_isFrom (N : Nat) (h : mh_H) (l0 : Nat) (l1 : Int32) (l2 : Int32) : Option (Int32 × mh_H) :=
  (gR h 12 l0 0).bind fun v1 =>
  (D_X12_way N h l1).bind fun q2 =>
  (aI q2.2 v1 (q2.1 + (1 : Int32))).bind fun v3 =>
  if v3 = l2 then (zB (1 : Int32) q2.2)
  else (zB (0 : Int32) q2.2)
set_option maxHeartbeats 4000000 in
set_option maxRecDepth 100000 in
theorem T_X12_isFrom {P : mh_E → Prop} {N d : Nat} (hd : 2 ≤ d) {z : (Int32 × mh_H)} {h : mh_H} {l0 : Nat} {l1 : Int32} {l2 : Int32} (hq : D_X12_isFrom N h l0 l1 l2 = some z) : mh_go P d mX12_isFrom 0 [some (.ref l0), some (.int l1), some (.int l2)] [] h (some (.int z.1)) z.2 := by
  unfold D_X12_isFrom at hq
  refine st_aload_n (pc := 0) dX12_isFrom_0 rfl ?_
  refine bd_getr (pc := 1) hq dX12_isFrom_1 fl_12_9_12 rfl (fun v1 hq => ?_)
  refine st_iload_n (pc := 4) dX12_isFrom_4 rfl ?_
  obtain ⟨q2, e2, hq⟩ := mh_ob hq
  refine st_invS (pc := 5) (Y := mX12_way) (vs := [.int l1]) (rest := [.ref v1]) (st2 := [.int q2.1, .ref v1]) dX12_isFrom_5 okX12_way wd_1282 wd_1283 pdX12_way rfl rfl rfl rfl (Nat.le_trans (by decide) hd) (Nat.le_of_ble_eq_true rfl) (T_X12_way (Nat.le_refl _) e2) rfl ?_
  refine st_iconst (pc := 8) (v := (1 : Int32)) dX12_isFrom_8 rfl ?_
  refine st_iadd (pc := 9) dX12_isFrom_9 ?_
  refine bd_iald (pc := 10) hq dX12_isFrom_10 (fun v3 hq => ?_)
  refine st_iload_n (pc := 11) dX12_isFrom_11 rfl ?_
  refine bd_icmp_ne (pc := 12) (tgt := 19) hq dX12_isFrom_12 (by decide) (fun _ hq => ?_) (fun _ hq => ?_)
  ·
    refine st_iconst (pc := 15) (v := (1 : Int32)) dX12_isFrom_15 rfl ?_
    refine st_goto (pc := 16) (tgt := 20) dX12_isFrom_16 (by decide) ?_
    exact bd_zret (pc := 20) hq dX12_isFrom_20 rfl
  ·
    refine st_iconst (pc := 19) (v := (0 : Int32)) dX12_isFrom_19 rfl ?_
    exact bd_zret (pc := 20) hq dX12_isFrom_20 rfl
-- HoleWaterModel.isOverflow(I)Z
theorem dX12_isOverflow_0 : decode cX12_isOverflow 0 = .ok (.aload_n 0, 1) := by decide +kernel
theorem dX12_isOverflow_1 : decode cX12_isOverflow 1 = .ok (.getfield 9, 3) := by decide +kernel
theorem dX12_isOverflow_4 : decode cX12_isOverflow 4 = .ok (.iload_n 1, 1) := by decide +kernel
theorem dX12_isOverflow_5 : decode cX12_isOverflow 5 = .ok (.invokestatic 99, 3) := by decide +kernel
theorem dX12_isOverflow_8 : decode cX12_isOverflow 8 = .ok (.iaload, 1) := by decide +kernel
theorem dX12_isOverflow_9 : decode cX12_isOverflow 9 = .ok (.iconst 3, 1) := by decide +kernel
theorem dX12_isOverflow_10 : decode cX12_isOverflow 10 = .ok (.if_icmp .ne 7, 3) := by decide +kernel
theorem dX12_isOverflow_13 : decode cX12_isOverflow 13 = .ok (.iconst 1, 1) := by decide +kernel
theorem dX12_isOverflow_14 : decode cX12_isOverflow 14 = .ok (.goto 4, 3) := by decide +kernel
theorem dX12_isOverflow_18 : decode cX12_isOverflow 18 = .ok (.ireturn, 1) := by decide +kernel
theorem dX12_isOverflow_17 : decode cX12_isOverflow 17 = .ok (.iconst 0, 1) := by decide +kernel
def D_X12_isOverflow (N : Nat) (h : mh_H) (l0 : Nat) (l1 : Int32) : Option (Int32 × mh_H) :=
  (gR h 12 l0 0).bind fun v1 =>
  (D_X12_way N h l1).bind fun q2 =>
  (aI q2.2 v1 q2.1).bind fun v3 =>
  if v3 = (3 : Int32) then (zB (1 : Int32) q2.2)
  else (zB (0 : Int32) q2.2)
set_option maxHeartbeats 4000000 in
set_option maxRecDepth 100000 in
theorem T_X12_isOverflow {P : mh_E → Prop} {N d : Nat} (hd : 2 ≤ d) {z : (Int32 × mh_H)} {h : mh_H} {l0 : Nat} {l1 : Int32} (hq : D_X12_isOverflow N h l0 l1 = some z) : mh_go P d mX12_isOverflow 0 [some (.ref l0), some (.int l1)] [] h (some (.int z.1)) z.2 := by
  unfold D_X12_isOverflow at hq
  refine st_aload_n (pc := 0) dX12_isOverflow_0 rfl ?_
  refine bd_getr (pc := 1) hq dX12_isOverflow_1 fl_12_9_12 rfl (fun v1 hq => ?_)
  refine st_iload_n (pc := 4) dX12_isOverflow_4 rfl ?_
  obtain ⟨q2, e2, hq⟩ := mh_ob hq
  refine st_invS (pc := 5) (Y := mX12_way) (vs := [.int l1]) (rest := [.ref v1]) (st2 := [.int q2.1, .ref v1]) dX12_isOverflow_5 okX12_way wd_1282 wd_1283 pdX12_way rfl rfl rfl rfl (Nat.le_trans (by decide) hd) (Nat.le_of_ble_eq_true rfl) (T_X12_way (Nat.le_refl _) e2) rfl ?_
  refine bd_iald (pc := 8) hq dX12_isOverflow_8 (fun v3 hq => ?_)
  refine st_iconst (pc := 9) (v := (3 : Int32)) dX12_isOverflow_9 rfl ?_
  refine bd_icmp_ne (pc := 10) (tgt := 17) hq dX12_isOverflow_10 (by decide) (fun _ hq => ?_) (fun _ hq => ?_)
  ·
    refine st_iconst (pc := 13) (v := (1 : Int32)) dX12_isOverflow_13 rfl ?_
    refine st_goto (pc := 14) (tgt := 18) dX12_isOverflow_14 (by decide) ?_
    exact bd_zret (pc := 18) hq dX12_isOverflow_18 rfl
  ·
    refine st_iconst (pc := 17) (v := (0 : Int32)) dX12_isOverflow_17 rfl ?_
    exact bd_zret (pc := 18) hq dX12_isOverflow_18 rfl
-- HoleWaterModel.parts(I)I
theorem dX12_parts_100 : decode cX12_parts 100 = .ok (.iinc 4 1, 3) := by decide +kernel
theorem dX12_parts_103 : decode cX12_parts 103 = .ok (.goto (-86), 3) := by decide +kernel
theorem dX12_parts_83 : decode cX12_parts 83 = .ok (.iastore, 1) := by decide +kernel
theorem dX12_parts_84 : decode cX12_parts 84 = .ok (.iload_n 2, 1) := by decide +kernel
theorem dX12_parts_85 : decode cX12_parts 85 = .ok (.aload_n 0, 1) := by decide +kernel
theorem dX12_parts_86 : decode cX12_parts 86 = .ok (.getfield 25, 3) := by decide +kernel
theorem dX12_parts_89 : decode cX12_parts 89 = .ok (.iload 4, 2) := by decide +kernel
theorem dX12_parts_91 : decode cX12_parts 91 = .ok (.iaload, 1) := by decide +kernel
theorem dX12_parts_92 : decode cX12_parts 92 = .ok (.isub, 1) := by decide +kernel
theorem dX12_parts_93 : decode cX12_parts 93 = .ok (.istore_n 2, 1) := by decide +kernel
theorem dX12_parts_94 : decode cX12_parts 94 = .ok (.goto 6, 3) := by decide +kernel
theorem dX12_parts_177 : decode cX12_parts 177 = .ok (.iinc 5 1, 3) := by decide +kernel
theorem dX12_parts_180 : decode cX12_parts 180 = .ok (.goto (-60), 3) := by decide +kernel
theorem dX12_parts_172 : decode cX12_parts 172 = .ok (.iadd, 1) := by decide +kernel
theorem dX12_parts_173 : decode cX12_parts 173 = .ok (.iastore, 1) := by decide +kernel
theorem dX12_parts_174 : decode cX12_parts 174 = .ok (.iinc 4 (-1), 3) := by decide +kernel
theorem dX12_parts_120 : decode cX12_parts 120 = .ok (.iload 5, 2) := by decide +kernel
theorem dX12_parts_122 : decode cX12_parts 122 = .ok (.aload_n 0, 1) := by decide +kernel
theorem dX12_parts_123 : decode cX12_parts 123 = .ok (.getfield 9, 3) := by decide +kernel
theorem dX12_parts_126 : decode cX12_parts 126 = .ok (.iconst 2, 1) := by decide +kernel
theorem dX12_parts_127 : decode cX12_parts 127 = .ok (.iaload, 1) := by decide +kernel
theorem dX12_parts_128 : decode cX12_parts 128 = .ok (.if_icmp .ge 55, 3) := by decide +kernel
theorem dX12_parts_183 : decode cX12_parts 183 = .ok (.iconst 0, 1) := by decide +kernel
theorem dX12_parts_184 : decode cX12_parts 184 = .ok (.ireturn, 1) := by decide +kernel
theorem dX12_parts_131 : decode cX12_parts 131 = .ok (.aload_n 0, 1) := by decide +kernel
theorem dX12_parts_132 : decode cX12_parts 132 = .ok (.iload 5, 2) := by decide +kernel
theorem dX12_parts_134 : decode cX12_parts 134 = .ok (.iload_n 1, 1) := by decide +kernel
theorem dX12_parts_135 : decode cX12_parts 135 = .ok (.invokevirtual 129, 3) := by decide +kernel
theorem dX12_parts_138 : decode cX12_parts 138 = .ok (.ifCond .eq 39, 3) := by decide +kernel
theorem dX12_parts_141 : decode cX12_parts 141 = .ok (.aload_n 0, 1) := by decide +kernel
theorem dX12_parts_142 : decode cX12_parts 142 = .ok (.iload 5, 2) := by decide +kernel
theorem dX12_parts_144 : decode cX12_parts 144 = .ok (.invokevirtual 132, 3) := by decide +kernel
theorem dX12_parts_147 : decode cX12_parts 147 = .ok (.ifCond .eq 6, 3) := by decide +kernel
theorem dX12_parts_153 : decode cX12_parts 153 = .ok (.aload_n 0, 1) := by decide +kernel
theorem dX12_parts_154 : decode cX12_parts 154 = .ok (.getfield 25, 3) := by decide +kernel
theorem dX12_parts_157 : decode cX12_parts 157 = .ok (.iload 5, 2) := by decide +kernel
theorem dX12_parts_159 : decode cX12_parts 159 = .ok (.iload_n 2, 1) := by decide +kernel
theorem dX12_parts_160 : decode cX12_parts 160 = .ok (.iload_n 3, 1) := by decide +kernel
theorem dX12_parts_161 : decode cX12_parts 161 = .ok (.idiv, 1) := by decide +kernel
theorem dX12_parts_162 : decode cX12_parts 162 = .ok (.iload 4, 2) := by decide +kernel
theorem dX12_parts_164 : decode cX12_parts 164 = .ok (.ifCond .le 7, 3) := by decide +kernel
theorem dX12_parts_171 : decode cX12_parts 171 = .ok (.iconst 0, 1) := by decide +kernel
theorem dX12_parts_167 : decode cX12_parts 167 = .ok (.iconst 1, 1) := by decide +kernel
theorem dX12_parts_168 : decode cX12_parts 168 = .ok (.goto 4, 3) := by decide +kernel
theorem dX12_parts_150 : decode cX12_parts 150 = .ok (.goto 27, 3) := by decide +kernel
theorem dX12_parts_17 : decode cX12_parts 17 = .ok (.iload 4, 2) := by decide +kernel
theorem dX12_parts_19 : decode cX12_parts 19 = .ok (.aload_n 0, 1) := by decide +kernel
theorem dX12_parts_20 : decode cX12_parts 20 = .ok (.getfield 9, 3) := by decide +kernel
theorem dX12_parts_23 : decode cX12_parts 23 = .ok (.iconst 2, 1) := by decide +kernel
theorem dX12_parts_24 : decode cX12_parts 24 = .ok (.iaload, 1) := by decide +kernel
theorem dX12_parts_25 : decode cX12_parts 25 = .ok (.if_icmp .ge 81, 3) := by decide +kernel
theorem dX12_parts_106 : decode cX12_parts 106 = .ok (.iload_n 3, 1) := by decide +kernel
theorem dX12_parts_107 : decode cX12_parts 107 = .ok (.ifCond .ne 5, 3) := by decide +kernel
theorem dX12_parts_110 : decode cX12_parts 110 = .ok (.iload_n 2, 1) := by decide +kernel
theorem dX12_parts_111 : decode cX12_parts 111 = .ok (.ireturn, 1) := by decide +kernel
theorem dX12_parts_112 : decode cX12_parts 112 = .ok (.iload_n 2, 1) := by decide +kernel
theorem dX12_parts_113 : decode cX12_parts 113 = .ok (.iload_n 3, 1) := by decide +kernel
theorem dX12_parts_114 : decode cX12_parts 114 = .ok (.irem, 1) := by decide +kernel
theorem dX12_parts_115 : decode cX12_parts 115 = .ok (.istore 4, 2) := by decide +kernel
theorem dX12_parts_117 : decode cX12_parts 117 = .ok (.iconst 0, 1) := by decide +kernel
theorem dX12_parts_118 : decode cX12_parts 118 = .ok (.istore 5, 2) := by decide +kernel
theorem dX12_parts_28 : decode cX12_parts 28 = .ok (.aload_n 0, 1) := by decide +kernel
theorem dX12_parts_29 : decode cX12_parts 29 = .ok (.iload 4, 2) := by decide +kernel
theorem dX12_parts_31 : decode cX12_parts 31 = .ok (.iload_n 1, 1) := by decide +kernel
theorem dX12_parts_32 : decode cX12_parts 32 = .ok (.invokevirtual 129, 3) := by decide +kernel
theorem dX12_parts_35 : decode cX12_parts 35 = .ok (.ifCond .ne 6, 3) := by decide +kernel
theorem dX12_parts_38 : decode cX12_parts 38 = .ok (.goto 62, 3) := by decide +kernel
theorem dX12_parts_41 : decode cX12_parts 41 = .ok (.aload_n 0, 1) := by decide +kernel
theorem dX12_parts_42 : decode cX12_parts 42 = .ok (.iload 4, 2) := by decide +kernel
theorem dX12_parts_44 : decode cX12_parts 44 = .ok (.invokevirtual 132, 3) := by decide +kernel
theorem dX12_parts_47 : decode cX12_parts 47 = .ok (.ifCond .eq 50, 3) := by decide +kernel
theorem dX12_parts_97 : decode cX12_parts 97 = .ok (.iinc 3 1, 3) := by decide +kernel
theorem dX12_parts_50 : decode cX12_parts 50 = .ok (.iload_n 2, 1) := by decide +kernel
theorem dX12_parts_51 : decode cX12_parts 51 = .ok (.aload_n 0, 1) := by decide +kernel
theorem dX12_parts_52 : decode cX12_parts 52 = .ok (.getfield 9, 3) := by decide +kernel
theorem dX12_parts_55 : decode cX12_parts 55 = .ok (.iload 4, 2) := by decide +kernel
theorem dX12_parts_57 : decode cX12_parts 57 = .ok (.invokestatic 99, 3) := by decide +kernel
theorem dX12_parts_60 : decode cX12_parts 60 = .ok (.iconst 4, 1) := by decide +kernel
theorem dX12_parts_61 : decode cX12_parts 61 = .ok (.iadd, 1) := by decide +kernel
theorem dX12_parts_62 : decode cX12_parts 62 = .ok (.iaload, 1) := by decide +kernel
theorem dX12_parts_63 : decode cX12_parts 63 = .ok (.isub, 1) := by decide +kernel
theorem dX12_parts_64 : decode cX12_parts 64 = .ok (.istore 5, 2) := by decide +kernel
theorem dX12_parts_66 : decode cX12_parts 66 = .ok (.aload_n 0, 1) := by decide +kernel
theorem dX12_parts_67 : decode cX12_parts 67 = .ok (.getfield 25, 3) := by decide +kernel
theorem dX12_parts_70 : decode cX12_parts 70 = .ok (.iload 4, 2) := by decide +kernel
theorem dX12_parts_72 : decode cX12_parts 72 = .ok (.iload 5, 2) := by decide +kernel
theorem dX12_parts_74 : decode cX12_parts 74 = .ok (.ifCond .le 8, 3) := by decide +kernel
theorem dX12_parts_82 : decode cX12_parts 82 = .ok (.iconst 0, 1) := by decide +kernel
theorem dX12_parts_77 : decode cX12_parts 77 = .ok (.iload 5, 2) := by decide +kernel
theorem dX12_parts_79 : decode cX12_parts 79 = .ok (.goto 4, 3) := by decide +kernel
theorem dX12_parts_0 : decode cX12_parts 0 = .ok (.aload_n 0, 1) := by decide +kernel
theorem dX12_parts_1 : decode cX12_parts 1 = .ok (.getfield 9, 3) := by decide +kernel
theorem dX12_parts_4 : decode cX12_parts 4 = .ok (.iload_n 1, 1) := by decide +kernel
theorem dX12_parts_5 : decode cX12_parts 5 = .ok (.invokestatic 71, 3) := by decide +kernel
theorem dX12_parts_8 : decode cX12_parts 8 = .ok (.iconst 3, 1) := by decide +kernel
theorem dX12_parts_9 : decode cX12_parts 9 = .ok (.iadd, 1) := by decide +kernel
theorem dX12_parts_10 : decode cX12_parts 10 = .ok (.iaload, 1) := by decide +kernel
theorem dX12_parts_11 : decode cX12_parts 11 = .ok (.istore_n 2, 1) := by decide +kernel
theorem dX12_parts_12 : decode cX12_parts 12 = .ok (.iconst 0, 1) := by decide +kernel
theorem dX12_parts_13 : decode cX12_parts 13 = .ok (.istore_n 3, 1) := by decide +kernel
theorem dX12_parts_14 : decode cX12_parts 14 = .ok (.iconst 0, 1) := by decide +kernel
theorem dX12_parts_15 : decode cX12_parts 15 = .ok (.istore 4, 2) := by decide +kernel
def D_X12_parts_100 (N : Nat) (k17 : mh_H → Nat → Int32 → Int32 → Int32 → Int32 → Option (Int32 × mh_H)) (h : mh_H) (l0 : Nat) (l1 : Int32) (l2 : Int32) (l3 : Int32) (l4 : Int32) : Option (Int32 × mh_H) :=
  k17 h l0 l1 l2 l3 (l4 + Int32.ofInt (1))
set_option maxHeartbeats 4000000 in
set_option maxRecDepth 100000 in
theorem T_X12_parts_100 {P : mh_E → Prop} {N d : Nat} (hd : 3 ≤ d) {z : (Int32 × mh_H)} {k17 : mh_H → Nat → Int32 → Int32 → Int32 → Int32 → Option (Int32 × mh_H)} (hk17 : ∀ (h : mh_H) (l0 : Nat) (l1 : Int32) (l2 : Int32) (l3 : Int32) (l4 : Int32), k17 h l0 l1 l2 l3 l4 = some z → mh_go P d mX12_parts 17 [some (.ref l0), some (.int l1), some (.int l2), some (.int l3), some (.int l4), none] [] h (some (.int z.1)) z.2) {h : mh_H} {l0 : Nat} {l1 : Int32} {l2 : Int32} {l3 : Int32} {l4 : Int32} (hq : D_X12_parts_100 N k17 h l0 l1 l2 l3 l4 = some z) : mh_go P d mX12_parts 100 [some (.ref l0), some (.int l1), some (.int l2), some (.int l3), some (.int l4), none] [] h (some (.int z.1)) z.2 := by
  unfold D_X12_parts_100 at hq
  refine st_iinc (pc := 100) (lv' := [some (.ref l0), some (.int l1), some (.int l2), some (.int l3), some (.int (l4 + Int32.ofInt (1))), none]) dX12_parts_100 rfl rfl (by decide) rfl ?_
  refine st_goto (pc := 103) (tgt := 17) dX12_parts_103 (by decide) ?_
  exact hk17 _ _ _ _ _ _ hq
def D_X12_parts_83 (N : Nat) (k17 : mh_H → Nat → Int32 → Int32 → Int32 → Int32 → Option (Int32 × mh_H)) (h : mh_H) (l0 : Nat) (l1 : Int32) (l2 : Int32) (l3 : Int32) (l4 : Int32) (s0 : Nat) (s1 : Int32) (s2 : Int32) : Option (Int32 × mh_H) :=
  (uI h s0 s1 s2).bind fun h1 =>
  (gR h1 12 l0 6).bind fun v2 =>
  (aI h1 v2 l4).bind fun v3 =>
  D_X12_parts_100 N k17 h1 l0 l1 (l2 - v3) l3 l4
set_option maxHeartbeats 4000000 in
set_option maxRecDepth 100000 in
theorem T_X12_parts_83 {P : mh_E → Prop} {N d : Nat} (hd : 3 ≤ d) {z : (Int32 × mh_H)} {k17 : mh_H → Nat → Int32 → Int32 → Int32 → Int32 → Option (Int32 × mh_H)} (hk17 : ∀ (h : mh_H) (l0 : Nat) (l1 : Int32) (l2 : Int32) (l3 : Int32) (l4 : Int32), k17 h l0 l1 l2 l3 l4 = some z → mh_go P d mX12_parts 17 [some (.ref l0), some (.int l1), some (.int l2), some (.int l3), some (.int l4), none] [] h (some (.int z.1)) z.2) {h : mh_H} {l0 : Nat} {l1 : Int32} {l2 : Int32} {l3 : Int32} {l4 : Int32} {s0 : Nat} {s1 : Int32} {s2 : Int32} (hq : D_X12_parts_83 N k17 h l0 l1 l2 l3 l4 s0 s1 s2 = some z) : mh_go P d mX12_parts 83 [some (.ref l0), some (.int l1), some (.int l2), some (.int l3), some (.int l4), none] [.int s2, .int s1, .ref s0] h (some (.int z.1)) z.2 := by
  unfold D_X12_parts_83 at hq
  refine bd_iast (pc := 83) hq dX12_parts_83 (fun h1 hq => ?_)
  refine st_iload_n (pc := 84) dX12_parts_84 rfl ?_
  refine st_aload_n (pc := 85) dX12_parts_85 rfl ?_
  refine bd_getr (pc := 86) hq dX12_parts_86 fl_12_25_12 rfl (fun v2 hq => ?_)
  refine st_iload (pc := 89) dX12_parts_89 rfl ?_
  refine bd_iald (pc := 91) hq dX12_parts_91 (fun v3 hq => ?_)
  refine st_isub (pc := 92) dX12_parts_92 ?_
  refine st_istore_n (pc := 93) (lv' := [some (.ref l0), some (.int l1), some (.int (l2 - v3)), some (.int l3), some (.int l4), none]) dX12_parts_93 rfl (by decide) rfl ?_
  refine st_goto (pc := 94) (tgt := 100) dX12_parts_94 (by decide) ?_
  exact T_X12_parts_100 hd hk17 hq
def D_X12_parts_177 (N : Nat) (k120 : mh_H → Nat → Int32 → Int32 → Int32 → Int32 → Int32 → Option (Int32 × mh_H)) (h : mh_H) (l0 : Nat) (l1 : Int32) (l2 : Int32) (l3 : Int32) (l4 : Int32) (l5 : Int32) : Option (Int32 × mh_H) :=
  k120 h l0 l1 l2 l3 l4 (l5 + Int32.ofInt (1))
set_option maxHeartbeats 4000000 in
set_option maxRecDepth 100000 in
theorem T_X12_parts_177 {P : mh_E → Prop} {N d : Nat} (hd : 3 ≤ d) {z : (Int32 × mh_H)} {k120 : mh_H → Nat → Int32 → Int32 → Int32 → Int32 → Int32 → Option (Int32 × mh_H)} (hk120 : ∀ (h : mh_H) (l0 : Nat) (l1 : Int32) (l2 : Int32) (l3 : Int32) (l4 : Int32) (l5 : Int32), k120 h l0 l1 l2 l3 l4 l5 = some z → mh_go P d mX12_parts 120 [some (.ref l0), some (.int l1), some (.int l2), some (.int l3), some (.int l4), some (.int l5)] [] h (some (.int z.1)) z.2) {h : mh_H} {l0 : Nat} {l1 : Int32} {l2 : Int32} {l3 : Int32} {l4 : Int32} {l5 : Int32} (hq : D_X12_parts_177 N k120 h l0 l1 l2 l3 l4 l5 = some z) : mh_go P d mX12_parts 177 [some (.ref l0), some (.int l1), some (.int l2), some (.int l3), some (.int l4), some (.int l5)] [] h (some (.int z.1)) z.2 := by
  unfold D_X12_parts_177 at hq
  refine st_iinc (pc := 177) (lv' := [some (.ref l0), some (.int l1), some (.int l2), some (.int l3), some (.int l4), some (.int (l5 + Int32.ofInt (1)))]) dX12_parts_177 rfl rfl (by decide) rfl ?_
  refine st_goto (pc := 180) (tgt := 120) dX12_parts_180 (by decide) ?_
  exact hk120 _ _ _ _ _ _ _ hq
def D_X12_parts_172 (N : Nat) (k120 : mh_H → Nat → Int32 → Int32 → Int32 → Int32 → Int32 → Option (Int32 × mh_H)) (h : mh_H) (l0 : Nat) (l1 : Int32) (l2 : Int32) (l3 : Int32) (l4 : Int32) (l5 : Int32) (s0 : Nat) (s1 : Int32) (s2 : Int32) (s3 : Int32) : Option (Int32 × mh_H) :=
  (uI h s0 s1 (s2 + s3)).bind fun h1 =>
  D_X12_parts_177 N k120 h1 l0 l1 l2 l3 (l4 + Int32.ofInt (-1)) l5
set_option maxHeartbeats 4000000 in
set_option maxRecDepth 100000 in
theorem T_X12_parts_172 {P : mh_E → Prop} {N d : Nat} (hd : 3 ≤ d) {z : (Int32 × mh_H)} {k120 : mh_H → Nat → Int32 → Int32 → Int32 → Int32 → Int32 → Option (Int32 × mh_H)} (hk120 : ∀ (h : mh_H) (l0 : Nat) (l1 : Int32) (l2 : Int32) (l3 : Int32) (l4 : Int32) (l5 : Int32), k120 h l0 l1 l2 l3 l4 l5 = some z → mh_go P d mX12_parts 120 [some (.ref l0), some (.int l1), some (.int l2), some (.int l3), some (.int l4), some (.int l5)] [] h (some (.int z.1)) z.2) {h : mh_H} {l0 : Nat} {l1 : Int32} {l2 : Int32} {l3 : Int32} {l4 : Int32} {l5 : Int32} {s0 : Nat} {s1 : Int32} {s2 : Int32} {s3 : Int32} (hq : D_X12_parts_172 N k120 h l0 l1 l2 l3 l4 l5 s0 s1 s2 s3 = some z) : mh_go P d mX12_parts 172 [some (.ref l0), some (.int l1), some (.int l2), some (.int l3), some (.int l4), some (.int l5)] [.int s3, .int s2, .int s1, .ref s0] h (some (.int z.1)) z.2 := by
  unfold D_X12_parts_172 at hq
  refine st_iadd (pc := 172) dX12_parts_172 ?_
  refine bd_iast (pc := 173) hq dX12_parts_173 (fun h1 hq => ?_)
  refine st_iinc (pc := 174) (lv' := [some (.ref l0), some (.int l1), some (.int l2), some (.int l3), some (.int (l4 + Int32.ofInt (-1))), some (.int l5)]) dX12_parts_174 rfl rfl (by decide) rfl ?_
  exact T_X12_parts_177 hd hk120 hq
def D_X12_parts_120 (N : Nat) : Nat → mh_H → Nat → Int32 → Int32 → Int32 → Int32 → Int32 → Option (Int32 × mh_H)
  | 0, _, _, _, _, _, _, _ => none
  | F + 1, h, l0, l1, l2, l3, l4, l5 =>
    (gR h 12 l0 0).bind fun v1 =>
    (aI h v1 (2 : Int32)).bind fun v2 =>
    if v2 ≤ l5 then (some ((0 : Int32), h))
    else (kO h 12 l0 <|
    (D_X12_isFrom N h l0 l5 l1).bind fun q3 =>
    if q3.1 = 0 then (D_X12_parts_177 N (D_X12_parts_120 N F) q3.2 l0 l1 l2 l3 l4 l5)
    else (kO q3.2 12 l0 <|
    (D_X12_isOverflow N q3.2 l0 l5).bind fun q4 =>
    if q4.1 = 0 then ((gR q4.2 12 l0 6).bind fun v5 =>
    dN l3 <|
    if l4 ≤ 0 then (D_X12_parts_172 N (D_X12_parts_120 N F) q4.2 l0 l1 l2 l3 l4 l5 v5 l5 (l2 / l3) (0 : Int32))
    else (D_X12_parts_172 N (D_X12_parts_120 N F) q4.2 l0 l1 l2 l3 l4 l5 v5 l5 (l2 / l3) (1 : Int32)))
    else (D_X12_parts_177 N (D_X12_parts_120 N F) q4.2 l0 l1 l2 l3 l4 l5)))
set_option maxHeartbeats 4000000 in
set_option maxRecDepth 100000 in
theorem T_X12_parts_120 {P : mh_E → Prop} {N d : Nat} (hd : 3 ≤ d) {z : (Int32 × mh_H)} : ∀ (F : Nat) (h : mh_H) (l0 : Nat) (l1 : Int32) (l2 : Int32) (l3 : Int32) (l4 : Int32) (l5 : Int32), D_X12_parts_120 N F h l0 l1 l2 l3 l4 l5 = some z → mh_go P d mX12_parts 120 [some (.ref l0), some (.int l1), some (.int l2), some (.int l3), some (.int l4), some (.int l5)] [] h (some (.int z.1)) z.2 := by
  intro F
  induction F with
  | zero => intro h l0 l1 l2 l3 l4 l5 hq; rw [D_X12_parts_120] at hq; cases hq
  | succ F ih =>
    intro h l0 l1 l2 l3 l4 l5 hq
    rw [D_X12_parts_120] at hq
    refine st_iload (pc := 120) dX12_parts_120 rfl ?_
    refine st_aload_n (pc := 122) dX12_parts_122 rfl ?_
    refine bd_getr (pc := 123) hq dX12_parts_123 fl_12_9_12 rfl (fun v1 hq => ?_)
    refine st_iconst (pc := 126) (v := (2 : Int32)) dX12_parts_126 rfl ?_
    refine bd_iald (pc := 127) hq dX12_parts_127 (fun v2 hq => ?_)
    refine bd_icmp_ge (pc := 128) (tgt := 183) hq dX12_parts_128 (by decide) (fun _ hq => ?_) (fun _ hq => ?_)
    ·
      refine st_iconst (pc := 183) (v := (0 : Int32)) dX12_parts_183 rfl ?_
      exact bd_iret (pc := 184) hq dX12_parts_184 rfl
    ·
      refine st_aload_n (pc := 131) dX12_parts_131 rfl ?_
      refine st_iload (pc := 132) dX12_parts_132 rfl ?_
      refine st_iload_n (pc := 134) dX12_parts_134 rfl ?_
      obtain ⟨⟨hbq3, hkq3⟩, hq⟩ := mh_oi hq
      obtain ⟨q3, e3, hq⟩ := mh_ob hq
      refine st_invV (pc := 135) (ci := 12) (vs := [.int l5, .int l1]) (rest := []) (st2 := [.int q3.1]) dX12_parts_135 okX12_isFrom (by decide) hkq3 hbq3 wd_1384 wd_1386 wp_52 pdX12_isFrom rfl rfl rfl rfl (Nat.le_trans (by decide) hd) (Nat.le_of_ble_eq_true rfl) (T_X12_isFrom (Nat.le_refl _) e3) rfl ?_
      refine bd_if_eq (pc := 138) (tgt := 177) hq dX12_parts_138 (by decide) (fun _ hq => ?_) (fun _ hq => ?_)
      ·
        exact T_X12_parts_177 hd ih hq
      ·
        refine st_aload_n (pc := 141) dX12_parts_141 rfl ?_
        refine st_iload (pc := 142) dX12_parts_142 rfl ?_
        obtain ⟨⟨hbq4, hkq4⟩, hq⟩ := mh_oi hq
        obtain ⟨q4, e4, hq⟩ := mh_ob hq
        refine st_invV (pc := 144) (ci := 12) (vs := [.int l5]) (rest := []) (st2 := [.int q4.1]) dX12_parts_144 okX12_isOverflow (by decide) hkq4 hbq4 wd_1388 wd_1390 wp_53 pdX12_isOverflow rfl rfl rfl rfl (Nat.le_trans (by decide) hd) (Nat.le_of_ble_eq_true rfl) (T_X12_isOverflow (Nat.le_refl _) e4) rfl ?_
        refine bd_if_eq (pc := 147) (tgt := 153) hq dX12_parts_147 (by decide) (fun _ hq => ?_) (fun _ hq => ?_)
        ·
          refine st_aload_n (pc := 153) dX12_parts_153 rfl ?_
          refine bd_getr (pc := 154) hq dX12_parts_154 fl_12_25_12 rfl (fun v5 hq => ?_)
          refine st_iload (pc := 157) dX12_parts_157 rfl ?_
          refine st_iload_n (pc := 159) dX12_parts_159 rfl ?_
          refine st_iload_n (pc := 160) dX12_parts_160 rfl ?_
          refine bd_idiv (pc := 161) hq dX12_parts_161 (fun hq => ?_)
          refine st_iload (pc := 162) dX12_parts_162 rfl ?_
          refine bd_if_le (pc := 164) (tgt := 171) hq dX12_parts_164 (by decide) (fun _ hq => ?_) (fun _ hq => ?_)
          ·
            refine st_iconst (pc := 171) (v := (0 : Int32)) dX12_parts_171 rfl ?_
            exact T_X12_parts_172 hd ih hq
          ·
            refine st_iconst (pc := 167) (v := (1 : Int32)) dX12_parts_167 rfl ?_
            refine st_goto (pc := 168) (tgt := 172) dX12_parts_168 (by decide) ?_
            exact T_X12_parts_172 hd ih hq
        ·
          refine st_goto (pc := 150) (tgt := 177) dX12_parts_150 (by decide) ?_
          exact T_X12_parts_177 hd ih hq
def D_X12_parts_17 (N : Nat) : Nat → mh_H → Nat → Int32 → Int32 → Int32 → Int32 → Option (Int32 × mh_H)
  | 0, _, _, _, _, _, _ => none
  | F + 1, h, l0, l1, l2, l3, l4 =>
    (gR h 12 l0 0).bind fun v1 =>
    (aI h v1 (2 : Int32)).bind fun v2 =>
    if v2 ≤ l4 then (if l3 = 0 then (some (l2, h))
    else (dN l3 <|
    D_X12_parts_120 N N h l0 l1 l2 l3 (l2 - l2 / l3 * l3) (0 : Int32)))
    else (kO h 12 l0 <|
    (D_X12_isFrom N h l0 l4 l1).bind fun q3 =>
    if q3.1 = 0 then (D_X12_parts_100 N (D_X12_parts_17 N F) q3.2 l0 l1 l2 l3 l4)
    else (kO q3.2 12 l0 <|
    (D_X12_isOverflow N q3.2 l0 l4).bind fun q4 =>
    if q4.1 = 0 then (D_X12_parts_100 N (D_X12_parts_17 N F) q4.2 l0 l1 l2 (l3 + Int32.ofInt (1)) l4)
    else ((gR q4.2 12 l0 0).bind fun v5 =>
    (D_X12_way N q4.2 l4).bind fun q6 =>
    (aI q6.2 v5 (q6.1 + (4 : Int32))).bind fun v7 =>
    (gR q6.2 12 l0 6).bind fun v8 =>
    if (l2 - v7) ≤ 0 then (D_X12_parts_83 N (D_X12_parts_17 N F) q6.2 l0 l1 l2 l3 l4 v8 l4 (0 : Int32))
    else (D_X12_parts_83 N (D_X12_parts_17 N F) q6.2 l0 l1 l2 l3 l4 v8 l4 (l2 - v7)))))
set_option maxHeartbeats 4000000 in
set_option maxRecDepth 100000 in
theorem T_X12_parts_17 {P : mh_E → Prop} {N d : Nat} (hd : 3 ≤ d) {z : (Int32 × mh_H)} : ∀ (F : Nat) (h : mh_H) (l0 : Nat) (l1 : Int32) (l2 : Int32) (l3 : Int32) (l4 : Int32), D_X12_parts_17 N F h l0 l1 l2 l3 l4 = some z → mh_go P d mX12_parts 17 [some (.ref l0), some (.int l1), some (.int l2), some (.int l3), some (.int l4), none] [] h (some (.int z.1)) z.2 := by
  intro F
  induction F with
  | zero => intro h l0 l1 l2 l3 l4 hq; rw [D_X12_parts_17] at hq; cases hq
  | succ F ih =>
    intro h l0 l1 l2 l3 l4 hq
    rw [D_X12_parts_17] at hq
    refine st_iload (pc := 17) dX12_parts_17 rfl ?_
    refine st_aload_n (pc := 19) dX12_parts_19 rfl ?_
    refine bd_getr (pc := 20) hq dX12_parts_20 fl_12_9_12 rfl (fun v1 hq => ?_)
    refine st_iconst (pc := 23) (v := (2 : Int32)) dX12_parts_23 rfl ?_
    refine bd_iald (pc := 24) hq dX12_parts_24 (fun v2 hq => ?_)
    refine bd_icmp_ge (pc := 25) (tgt := 106) hq dX12_parts_25 (by decide) (fun _ hq => ?_) (fun _ hq => ?_)
    ·
      refine st_iload_n (pc := 106) dX12_parts_106 rfl ?_
      refine bd_if_ne (pc := 107) (tgt := 112) hq dX12_parts_107 (by decide) (fun _ hq => ?_) (fun _ hq => ?_)
      ·
        refine st_iload_n (pc := 110) dX12_parts_110 rfl ?_
        exact bd_iret (pc := 111) hq dX12_parts_111 rfl
      ·
        refine st_iload_n (pc := 112) dX12_parts_112 rfl ?_
        refine st_iload_n (pc := 113) dX12_parts_113 rfl ?_
        refine bd_irem (pc := 114) hq dX12_parts_114 (fun hq => ?_)
        refine st_istore (pc := 115) (lv' := [some (.ref l0), some (.int l1), some (.int l2), some (.int l3), some (.int (l2 - l2 / l3 * l3)), none]) dX12_parts_115 rfl (by decide) rfl ?_
        refine st_iconst (pc := 117) (v := (0 : Int32)) dX12_parts_117 rfl ?_
        refine st_istore (pc := 118) (lv' := [some (.ref l0), some (.int l1), some (.int l2), some (.int l3), some (.int (l2 - l2 / l3 * l3)), some (.int (0 : Int32))]) dX12_parts_118 rfl (by decide) rfl ?_
        exact T_X12_parts_120 hd N _ _ _ _ _ _ _ hq
    ·
      refine st_aload_n (pc := 28) dX12_parts_28 rfl ?_
      refine st_iload (pc := 29) dX12_parts_29 rfl ?_
      refine st_iload_n (pc := 31) dX12_parts_31 rfl ?_
      obtain ⟨⟨hbq3, hkq3⟩, hq⟩ := mh_oi hq
      obtain ⟨q3, e3, hq⟩ := mh_ob hq
      refine st_invV (pc := 32) (ci := 12) (vs := [.int l4, .int l1]) (rest := []) (st2 := [.int q3.1]) dX12_parts_32 okX12_isFrom (by decide) hkq3 hbq3 wd_1384 wd_1386 wp_52 pdX12_isFrom rfl rfl rfl rfl (Nat.le_trans (by decide) hd) (Nat.le_of_ble_eq_true rfl) (T_X12_isFrom (Nat.le_refl _) e3) rfl ?_
      refine bd_if_ne (pc := 35) (tgt := 41) hq dX12_parts_35 (by decide) (fun _ hq => ?_) (fun _ hq => ?_)
      ·
        refine st_goto (pc := 38) (tgt := 100) dX12_parts_38 (by decide) ?_
        exact T_X12_parts_100 hd ih hq
      ·
        refine st_aload_n (pc := 41) dX12_parts_41 rfl ?_
        refine st_iload (pc := 42) dX12_parts_42 rfl ?_
        obtain ⟨⟨hbq4, hkq4⟩, hq⟩ := mh_oi hq
        obtain ⟨q4, e4, hq⟩ := mh_ob hq
        refine st_invV (pc := 44) (ci := 12) (vs := [.int l4]) (rest := []) (st2 := [.int q4.1]) dX12_parts_44 okX12_isOverflow (by decide) hkq4 hbq4 wd_1388 wd_1390 wp_53 pdX12_isOverflow rfl rfl rfl rfl (Nat.le_trans (by decide) hd) (Nat.le_of_ble_eq_true rfl) (T_X12_isOverflow (Nat.le_refl _) e4) rfl ?_
        refine bd_if_eq (pc := 47) (tgt := 97) hq dX12_parts_47 (by decide) (fun _ hq => ?_) (fun _ hq => ?_)
        ·
          refine st_iinc (pc := 97) (lv' := [some (.ref l0), some (.int l1), some (.int l2), some (.int (l3 + Int32.ofInt (1))), some (.int l4), none]) dX12_parts_97 rfl rfl (by decide) rfl ?_
          exact T_X12_parts_100 hd ih hq
        ·
          refine st_iload_n (pc := 50) dX12_parts_50 rfl ?_
          refine st_aload_n (pc := 51) dX12_parts_51 rfl ?_
          refine bd_getr (pc := 52) hq dX12_parts_52 fl_12_9_12 rfl (fun v5 hq => ?_)
          refine st_iload (pc := 55) dX12_parts_55 rfl ?_
          obtain ⟨q6, e6, hq⟩ := mh_ob hq
          refine st_invS (pc := 57) (Y := mX12_way) (vs := [.int l4]) (rest := [.ref v5, .int l2]) (st2 := [.int q6.1, .ref v5, .int l2]) dX12_parts_57 okX12_way wd_1282 wd_1283 pdX12_way rfl rfl rfl rfl (Nat.le_trans (by decide) hd) (Nat.le_of_ble_eq_true rfl) (T_X12_way (Nat.le_refl _) e6) rfl ?_
          refine st_iconst (pc := 60) (v := (4 : Int32)) dX12_parts_60 rfl ?_
          refine st_iadd (pc := 61) dX12_parts_61 ?_
          refine bd_iald (pc := 62) hq dX12_parts_62 (fun v7 hq => ?_)
          refine st_isub (pc := 63) dX12_parts_63 ?_
          refine st_istore (pc := 64) (lv' := [some (.ref l0), some (.int l1), some (.int l2), some (.int l3), some (.int l4), some (.int (l2 - v7))]) dX12_parts_64 rfl (by decide) rfl ?_
          refine st_aload_n (pc := 66) dX12_parts_66 rfl ?_
          refine bd_getr (pc := 67) hq dX12_parts_67 fl_12_25_12 rfl (fun v8 hq => ?_)
          refine st_iload (pc := 70) dX12_parts_70 rfl ?_
          refine st_iload (pc := 72) dX12_parts_72 rfl ?_
          refine bd_if_le (pc := 74) (tgt := 82) hq dX12_parts_74 (by decide) (fun _ hq => ?_) (fun _ hq => ?_)
          ·
            refine st_iconst (pc := 82) (v := (0 : Int32)) dX12_parts_82 rfl ?_
            refine st_lesS (lv' := [some (.ref l0), some (.int l1), some (.int l2), some (.int l3), some (.int l4), none]) ⟨Or.inr rfl, Or.inr rfl, Or.inr rfl, Or.inr rfl, Or.inr rfl, Or.inl rfl, trivial⟩ ?_
            exact T_X12_parts_83 hd ih hq
          ·
            refine st_iload (pc := 77) dX12_parts_77 rfl ?_
            refine st_goto (pc := 79) (tgt := 83) dX12_parts_79 (by decide) ?_
            refine st_lesS (lv' := [some (.ref l0), some (.int l1), some (.int l2), some (.int l3), some (.int l4), none]) ⟨Or.inr rfl, Or.inr rfl, Or.inr rfl, Or.inr rfl, Or.inr rfl, Or.inl rfl, trivial⟩ ?_
            exact T_X12_parts_83 hd ih hq
def D_X12_parts (N : Nat) (h : mh_H) (l0 : Nat) (l1 : Int32) : Option (Int32 × mh_H) :=
  (gR h 12 l0 0).bind fun v1 =>
  (D_X12_joint N h l1).bind fun q2 =>
  (aI q2.2 v1 (q2.1 + (3 : Int32))).bind fun v3 =>
  D_X12_parts_17 N N q2.2 l0 l1 v3 (0 : Int32) (0 : Int32)
set_option maxHeartbeats 4000000 in
set_option maxRecDepth 100000 in
theorem T_X12_parts {P : mh_E → Prop} {N d : Nat} (hd : 3 ≤ d) {z : (Int32 × mh_H)} {h : mh_H} {l0 : Nat} {l1 : Int32} (hq : D_X12_parts N h l0 l1 = some z) : mh_go P d mX12_parts 0 [some (.ref l0), some (.int l1), none, none, none, none] [] h (some (.int z.1)) z.2 := by
  unfold D_X12_parts at hq
  refine st_aload_n (pc := 0) dX12_parts_0 rfl ?_
  refine bd_getr (pc := 1) hq dX12_parts_1 fl_12_9_12 rfl (fun v1 hq => ?_)
  refine st_iload_n (pc := 4) dX12_parts_4 rfl ?_
  obtain ⟨q2, e2, hq⟩ := mh_ob hq
  refine st_invS (pc := 5) (Y := mX12_joint) (vs := [.int l1]) (rest := [.ref v1]) (st2 := [.int q2.1, .ref v1]) dX12_parts_5 okX12_joint wd_1252 wd_1253 pdX12_joint rfl rfl rfl rfl (Nat.le_trans (by decide) hd) (Nat.le_of_ble_eq_true rfl) (T_X12_joint (Nat.le_refl _) e2) rfl ?_
  refine st_iconst (pc := 8) (v := (3 : Int32)) dX12_parts_8 rfl ?_
  refine st_iadd (pc := 9) dX12_parts_9 ?_
  refine bd_iald (pc := 10) hq dX12_parts_10 (fun v3 hq => ?_)
  refine st_istore_n (pc := 11) (lv' := [some (.ref l0), some (.int l1), some (.int v3), none, none, none]) dX12_parts_11 rfl (by decide) rfl ?_
  refine st_iconst (pc := 12) (v := (0 : Int32)) dX12_parts_12 rfl ?_
  refine st_istore_n (pc := 13) (lv' := [some (.ref l0), some (.int l1), some (.int v3), some (.int (0 : Int32)), none, none]) dX12_parts_13 rfl (by decide) rfl ?_
  refine st_iconst (pc := 14) (v := (0 : Int32)) dX12_parts_14 rfl ?_
  refine st_istore (pc := 15) (lv' := [some (.ref l0), some (.int l1), some (.int v3), some (.int (0 : Int32)), some (.int (0 : Int32)), none]) dX12_parts_15 rfl (by decide) rfl ?_
  exact T_X12_parts_17 hd N _ _ _ _ _ _ hq
-- HoleWaterModel.goesIn(III)V
theorem dX12_goesIn_94 : decode cX12_goesIn 94 = .ok (.dup2, 1) := by decide +kernel
theorem dX12_goesIn_95 : decode cX12_goesIn 95 = .ok (.iaload, 1) := by decide +kernel
theorem dX12_goesIn_96 : decode cX12_goesIn 96 = .ok (.iload 6, 2) := by decide +kernel
theorem dX12_goesIn_98 : decode cX12_goesIn 98 = .ok (.iadd, 1) := by decide +kernel
theorem dX12_goesIn_99 : decode cX12_goesIn 99 = .ok (.iastore, 1) := by decide +kernel
theorem dX12_goesIn_100 : decode cX12_goesIn 100 = .ok (.goto 32, 3) := by decide +kernel
theorem dX12_goesIn_132 : decode cX12_goesIn 132 = .ok (.return_, 1) := by decide +kernel
theorem dX12_goesIn_68 : decode cX12_goesIn 68 = .ok (.iload 5, 2) := by decide +kernel
theorem dX12_goesIn_70 : decode cX12_goesIn 70 = .ok (.iconst 5, 1) := by decide +kernel
theorem dX12_goesIn_71 : decode cX12_goesIn 71 = .ok (.if_icmp .ne 32, 3) := by decide +kernel
theorem dX12_goesIn_74 : decode cX12_goesIn 74 = .ok (.aload_n 0, 1) := by decide +kernel
theorem dX12_goesIn_75 : decode cX12_goesIn 75 = .ok (.getfield 9, 3) := by decide +kernel
theorem dX12_goesIn_78 : decode cX12_goesIn 78 = .ok (.iload_n 2, 1) := by decide +kernel
theorem dX12_goesIn_79 : decode cX12_goesIn 79 = .ok (.ifCond .ne 8, 3) := by decide +kernel
theorem dX12_goesIn_82 : decode cX12_goesIn 82 = .ok (.bipush 8, 2) := by decide +kernel
theorem dX12_goesIn_84 : decode cX12_goesIn 84 = .ok (.goto 10, 3) := by decide +kernel
theorem dX12_goesIn_87 : decode cX12_goesIn 87 = .ok (.iload_n 2, 1) := by decide +kernel
theorem dX12_goesIn_88 : decode cX12_goesIn 88 = .ok (.iconst 1, 1) := by decide +kernel
theorem dX12_goesIn_89 : decode cX12_goesIn 89 = .ok (.isub, 1) := by decide +kernel
theorem dX12_goesIn_90 : decode cX12_goesIn 90 = .ok (.iconst 4, 1) := by decide +kernel
theorem dX12_goesIn_91 : decode cX12_goesIn 91 = .ok (.invokestatic 123, 3) := by decide +kernel
theorem dX12_goesIn_103 : decode cX12_goesIn 103 = .ok (.aload_n 0, 1) := by decide +kernel
theorem dX12_goesIn_104 : decode cX12_goesIn 104 = .ok (.getfield 9, 3) := by decide +kernel
theorem dX12_goesIn_107 : decode cX12_goesIn 107 = .ok (.iload 4, 2) := by decide +kernel
theorem dX12_goesIn_109 : decode cX12_goesIn 109 = .ok (.bipush 10, 2) := by decide +kernel
theorem dX12_goesIn_111 : decode cX12_goesIn 111 = .ok (.iadd, 1) := by decide +kernel
theorem dX12_goesIn_112 : decode cX12_goesIn 112 = .ok (.iconst 5, 1) := by decide +kernel
theorem dX12_goesIn_113 : decode cX12_goesIn 113 = .ok (.aload_n 0, 1) := by decide +kernel
theorem dX12_goesIn_114 : decode cX12_goesIn 114 = .ok (.getfield 9, 3) := by decide +kernel
theorem dX12_goesIn_117 : decode cX12_goesIn 117 = .ok (.iconst 0, 1) := by decide +kernel
theorem dX12_goesIn_118 : decode cX12_goesIn 118 = .ok (.iaload, 1) := by decide +kernel
theorem dX12_goesIn_119 : decode cX12_goesIn 119 = .ok (.bipush 41, 2) := by decide +kernel
theorem dX12_goesIn_121 : decode cX12_goesIn 121 = .ok (.irem, 1) := by decide +kernel
theorem dX12_goesIn_122 : decode cX12_goesIn 122 = .ok (.imul, 1) := by decide +kernel
theorem dX12_goesIn_123 : decode cX12_goesIn 123 = .ok (.iadd, 1) := by decide +kernel
theorem dX12_goesIn_124 : decode cX12_goesIn 124 = .ok (.iload_n 2, 1) := by decide +kernel
theorem dX12_goesIn_125 : decode cX12_goesIn 125 = .ok (.iadd, 1) := by decide +kernel
theorem dX12_goesIn_126 : decode cX12_goesIn 126 = .ok (.dup2, 1) := by decide +kernel
theorem dX12_goesIn_127 : decode cX12_goesIn 127 = .ok (.iaload, 1) := by decide +kernel
theorem dX12_goesIn_128 : decode cX12_goesIn 128 = .ok (.iload 6, 2) := by decide +kernel
theorem dX12_goesIn_130 : decode cX12_goesIn 130 = .ok (.iadd, 1) := by decide +kernel
theorem dX12_goesIn_131 : decode cX12_goesIn 131 = .ok (.iastore, 1) := by decide +kernel
theorem dX12_goesIn_0 : decode cX12_goesIn 0 = .ok (.iload_n 1, 1) := by decide +kernel
theorem dX12_goesIn_1 : decode cX12_goesIn 1 = .ok (.invokestatic 99, 3) := by decide +kernel
theorem dX12_goesIn_4 : decode cX12_goesIn 4 = .ok (.istore 4, 2) := by decide +kernel
theorem dX12_goesIn_6 : decode cX12_goesIn 6 = .ok (.aload_n 0, 1) := by decide +kernel
theorem dX12_goesIn_7 : decode cX12_goesIn 7 = .ok (.getfield 9, 3) := by decide +kernel
theorem dX12_goesIn_10 : decode cX12_goesIn 10 = .ok (.iload 4, 2) := by decide +kernel
theorem dX12_goesIn_12 : decode cX12_goesIn 12 = .ok (.iaload, 1) := by decide +kernel
theorem dX12_goesIn_13 : decode cX12_goesIn 13 = .ok (.istore 5, 2) := by decide +kernel
theorem dX12_goesIn_15 : decode cX12_goesIn 15 = .ok (.iload_n 3, 1) := by decide +kernel
theorem dX12_goesIn_16 : decode cX12_goesIn 16 = .ok (.istore 6, 2) := by decide +kernel
theorem dX12_goesIn_18 : decode cX12_goesIn 18 = .ok (.iload_n 2, 1) := by decide +kernel
theorem dX12_goesIn_19 : decode cX12_goesIn 19 = .ok (.ifCond .le 49, 3) := by decide +kernel
theorem dX12_goesIn_22 : decode cX12_goesIn 22 = .ok (.iload 5, 2) := by decide +kernel
theorem dX12_goesIn_24 : decode cX12_goesIn 24 = .ok (.iconst 2, 1) := by decide +kernel
theorem dX12_goesIn_25 : decode cX12_goesIn 25 = .ok (.invokestatic 105, 3) := by decide +kernel
theorem dX12_goesIn_28 : decode cX12_goesIn 28 = .ok (.ifCond .eq 40, 3) := by decide +kernel
theorem dX12_goesIn_31 : decode cX12_goesIn 31 = .ok (.iload_n 3, 1) := by decide +kernel
theorem dX12_goesIn_32 : decode cX12_goesIn 32 = .ok (.aload_n 0, 1) := by decide +kernel
theorem dX12_goesIn_33 : decode cX12_goesIn 33 = .ok (.getfield 9, 3) := by decide +kernel
theorem dX12_goesIn_36 : decode cX12_goesIn 36 = .ok (.iload 4, 2) := by decide +kernel
theorem dX12_goesIn_38 : decode cX12_goesIn 38 = .ok (.iconst 4, 1) := by decide +kernel
theorem dX12_goesIn_39 : decode cX12_goesIn 39 = .ok (.iadd, 1) := by decide +kernel
theorem dX12_goesIn_40 : decode cX12_goesIn 40 = .ok (.iaload, 1) := by decide +kernel
theorem dX12_goesIn_41 : decode cX12_goesIn 41 = .ok (.idiv, 1) := by decide +kernel
theorem dX12_goesIn_42 : decode cX12_goesIn 42 = .ok (.istore 7, 2) := by decide +kernel
theorem dX12_goesIn_44 : decode cX12_goesIn 44 = .ok (.aload_n 0, 1) := by decide +kernel
theorem dX12_goesIn_45 : decode cX12_goesIn 45 = .ok (.getfield 9, 3) := by decide +kernel
theorem dX12_goesIn_48 : decode cX12_goesIn 48 = .ok (.iload_n 2, 1) := by decide +kernel
theorem dX12_goesIn_49 : decode cX12_goesIn 49 = .ok (.iconst 1, 1) := by decide +kernel
theorem dX12_goesIn_50 : decode cX12_goesIn 50 = .ok (.isub, 1) := by decide +kernel
theorem dX12_goesIn_51 : decode cX12_goesIn 51 = .ok (.iconst 2, 1) := by decide +kernel
theorem dX12_goesIn_52 : decode cX12_goesIn 52 = .ok (.invokestatic 123, 3) := by decide +kernel
theorem dX12_goesIn_55 : decode cX12_goesIn 55 = .ok (.dup2, 1) := by decide +kernel
theorem dX12_goesIn_56 : decode cX12_goesIn 56 = .ok (.iaload, 1) := by decide +kernel
theorem dX12_goesIn_57 : decode cX12_goesIn 57 = .ok (.iload 7, 2) := by decide +kernel
theorem dX12_goesIn_59 : decode cX12_goesIn 59 = .ok (.iadd, 1) := by decide +kernel
theorem dX12_goesIn_60 : decode cX12_goesIn 60 = .ok (.iastore, 1) := by decide +kernel
theorem dX12_goesIn_61 : decode cX12_goesIn 61 = .ok (.iload 6, 2) := by decide +kernel
theorem dX12_goesIn_63 : decode cX12_goesIn 63 = .ok (.iload 7, 2) := by decide +kernel
theorem dX12_goesIn_65 : decode cX12_goesIn 65 = .ok (.isub, 1) := by decide +kernel
theorem dX12_goesIn_66 : decode cX12_goesIn 66 = .ok (.istore 6, 2) := by decide +kernel
def D_X12_goesIn_94 (N : Nat) (h : mh_H) (l6 : Int32) (s0 : Nat) (s1 : Int32) : Option mh_H :=
  (aI h s0 s1).bind fun v1 =>
  (uI h s0 s1 (v1 + l6)).bind fun h2 =>
  some h2
set_option maxHeartbeats 4000000 in
set_option maxRecDepth 100000 in
theorem T_X12_goesIn_94 {P : mh_E → Prop} {N d : Nat} (hd : 3 ≤ d) {z : mh_H} {h : mh_H} {l6 : Int32} {s0 : Nat} {s1 : Int32} (hq : D_X12_goesIn_94 N h l6 s0 s1 = some z) : mh_go P d mX12_goesIn 94 [none, none, none, none, none, none, some (.int l6), none] [.int s1, .ref s0] h none z := by
  unfold D_X12_goesIn_94 at hq
  refine st_dup2 (pc := 94) dX12_goesIn_94 rfl rfl ?_
  refine bd_iald (pc := 95) hq dX12_goesIn_95 (fun v1 hq => ?_)
  refine st_iload (pc := 96) dX12_goesIn_96 rfl ?_
  refine st_iadd (pc := 98) dX12_goesIn_98 ?_
  refine bd_iast (pc := 99) hq dX12_goesIn_99 (fun h2 hq => ?_)
  refine st_goto (pc := 100) (tgt := 132) dX12_goesIn_100 (by decide) ?_
  exact bd_vret (pc := 132) hq dX12_goesIn_132 rfl
def D_X12_goesIn_68 (N : Nat) (h : mh_H) (l0 : Nat) (l2 : Int32) (l4 : Int32) (l5 : Int32) (l6 : Int32) : Option mh_H :=
  if l5 = (5 : Int32) then ((gR h 12 l0 0).bind fun v1 =>
  if l2 = 0 then (D_X12_goesIn_94 N h l6 v1 (8 : Int32))
  else ((D_X12_stuffAt N h (l2 - (1 : Int32)) (4 : Int32)).bind fun q2 =>
  D_X12_goesIn_94 N q2.2 l6 v1 q2.1))
  else ((gR h 12 l0 0).bind fun v1 =>
  (gR h 12 l0 0).bind fun v2 =>
  (aI h v2 (0 : Int32)).bind fun v3 =>
  dN (41 : Int32) <|
  (aI h v1 (((l4 + (10 : Int32)) + ((5 : Int32) * (v3 - v3 / (41 : Int32) * (41 : Int32)))) + l2)).bind fun v4 =>
  (uI h v1 (((l4 + (10 : Int32)) + ((5 : Int32) * (v3 - v3 / (41 : Int32) * (41 : Int32)))) + l2) (v4 + l6)).bind fun h5 =>
  some h5)
set_option maxHeartbeats 4000000 in
set_option maxRecDepth 100000 in
theorem T_X12_goesIn_68 {P : mh_E → Prop} {N d : Nat} (hd : 3 ≤ d) {z : mh_H} {h : mh_H} {l0 : Nat} {l2 : Int32} {l4 : Int32} {l5 : Int32} {l6 : Int32} (hq : D_X12_goesIn_68 N h l0 l2 l4 l5 l6 = some z) : mh_go P d mX12_goesIn 68 [some (.ref l0), none, some (.int l2), none, some (.int l4), some (.int l5), some (.int l6), none] [] h none z := by
  unfold D_X12_goesIn_68 at hq
  refine st_iload (pc := 68) dX12_goesIn_68 rfl ?_
  refine st_iconst (pc := 70) (v := (5 : Int32)) dX12_goesIn_70 rfl ?_
  refine bd_icmp_ne (pc := 71) (tgt := 103) hq dX12_goesIn_71 (by decide) (fun _ hq => ?_) (fun _ hq => ?_)
  ·
    refine st_aload_n (pc := 74) dX12_goesIn_74 rfl ?_
    refine bd_getr (pc := 75) hq dX12_goesIn_75 fl_12_9_12 rfl (fun v1 hq => ?_)
    refine st_iload_n (pc := 78) dX12_goesIn_78 rfl ?_
    refine bd_if_ne (pc := 79) (tgt := 87) hq dX12_goesIn_79 (by decide) (fun _ hq => ?_) (fun _ hq => ?_)
    ·
      refine st_bipush (pc := 82) (v := (8 : Int32)) dX12_goesIn_82 (by decide) ?_
      refine st_goto (pc := 84) (tgt := 94) dX12_goesIn_84 (by decide) ?_
      refine st_lesS (lv' := [none, none, none, none, none, none, some (.int l6), none]) ⟨Or.inl rfl, Or.inr rfl, Or.inl rfl, Or.inr rfl, Or.inl rfl, Or.inl rfl, Or.inr rfl, Or.inr rfl, trivial⟩ ?_
      exact T_X12_goesIn_94 hd hq
    ·
      refine st_iload_n (pc := 87) dX12_goesIn_87 rfl ?_
      refine st_iconst (pc := 88) (v := (1 : Int32)) dX12_goesIn_88 rfl ?_
      refine st_isub (pc := 89) dX12_goesIn_89 ?_
      refine st_iconst (pc := 90) (v := (4 : Int32)) dX12_goesIn_90 rfl ?_
      obtain ⟨q2, e2, hq⟩ := mh_ob hq
      refine st_invS (pc := 91) (Y := mX12_stuffAt) (vs := [.int (l2 - (1 : Int32)), .int (4 : Int32)]) (rest := [.ref v1]) (st2 := [.int q2.1, .ref v1]) dX12_goesIn_91 okX12_stuffAt wd_1347 wd_1348 pdX12_stuffAt rfl rfl rfl rfl (Nat.le_trans (by decide) hd) (Nat.le_of_ble_eq_true rfl) (T_X12_stuffAt (Nat.le_refl _) e2) rfl ?_
      refine st_lesS (lv' := [none, none, none, none, none, none, some (.int l6), none]) ⟨Or.inl rfl, Or.inr rfl, Or.inl rfl, Or.inr rfl, Or.inl rfl, Or.inl rfl, Or.inr rfl, Or.inr rfl, trivial⟩ ?_
      exact T_X12_goesIn_94 hd hq
  ·
    refine st_aload_n (pc := 103) dX12_goesIn_103 rfl ?_
    refine bd_getr (pc := 104) hq dX12_goesIn_104 fl_12_9_12 rfl (fun v1 hq => ?_)
    refine st_iload (pc := 107) dX12_goesIn_107 rfl ?_
    refine st_bipush (pc := 109) (v := (10 : Int32)) dX12_goesIn_109 (by decide) ?_
    refine st_iadd (pc := 111) dX12_goesIn_111 ?_
    refine st_iconst (pc := 112) (v := (5 : Int32)) dX12_goesIn_112 rfl ?_
    refine st_aload_n (pc := 113) dX12_goesIn_113 rfl ?_
    refine bd_getr (pc := 114) hq dX12_goesIn_114 fl_12_9_12 rfl (fun v2 hq => ?_)
    refine st_iconst (pc := 117) (v := (0 : Int32)) dX12_goesIn_117 rfl ?_
    refine bd_iald (pc := 118) hq dX12_goesIn_118 (fun v3 hq => ?_)
    refine st_bipush (pc := 119) (v := (41 : Int32)) dX12_goesIn_119 (by decide) ?_
    refine bd_irem (pc := 121) hq dX12_goesIn_121 (fun hq => ?_)
    refine st_imul (pc := 122) dX12_goesIn_122 ?_
    refine st_iadd (pc := 123) dX12_goesIn_123 ?_
    refine st_iload_n (pc := 124) dX12_goesIn_124 rfl ?_
    refine st_iadd (pc := 125) dX12_goesIn_125 ?_
    refine st_dup2 (pc := 126) dX12_goesIn_126 rfl rfl ?_
    refine bd_iald (pc := 127) hq dX12_goesIn_127 (fun v4 hq => ?_)
    refine st_iload (pc := 128) dX12_goesIn_128 rfl ?_
    refine st_iadd (pc := 130) dX12_goesIn_130 ?_
    refine bd_iast (pc := 131) hq dX12_goesIn_131 (fun h5 hq => ?_)
    exact bd_vret (pc := 132) hq dX12_goesIn_132 rfl
def D_X12_goesIn (N : Nat) (h : mh_H) (l0 : Nat) (l1 : Int32) (l2 : Int32) (l3 : Int32) : Option mh_H :=
  (D_X12_way N h l1).bind fun q1 =>
  (gR q1.2 12 l0 0).bind fun v2 =>
  (aI q1.2 v2 q1.1).bind fun v3 =>
  if l2 ≤ 0 then (D_X12_goesIn_68 N q1.2 l0 l2 q1.1 v3 l3)
  else ((D_X12_isUnder N q1.2 v3 (2 : Int32)).bind fun q4 =>
  if q4.1 = 0 then (D_X12_goesIn_68 N q4.2 l0 l2 q1.1 v3 l3)
  else ((gR q4.2 12 l0 0).bind fun v5 =>
  (aI q4.2 v5 (q1.1 + (4 : Int32))).bind fun v6 =>
  dN v6 <|
  (gR q4.2 12 l0 0).bind fun v7 =>
  (D_X12_stuffAt N q4.2 (l2 - (1 : Int32)) (2 : Int32)).bind fun q8 =>
  (aI q8.2 v7 q8.1).bind fun v9 =>
  (uI q8.2 v7 q8.1 (v9 + (l3 / v6))).bind fun h10 =>
  D_X12_goesIn_68 N h10 l0 l2 q1.1 v3 (l3 - (l3 / v6))))
set_option maxHeartbeats 4000000 in
set_option maxRecDepth 100000 in
theorem T_X12_goesIn {P : mh_E → Prop} {N d : Nat} (hd : 3 ≤ d) {z : mh_H} {h : mh_H} {l0 : Nat} {l1 : Int32} {l2 : Int32} {l3 : Int32} (hq : D_X12_goesIn N h l0 l1 l2 l3 = some z) : mh_go P d mX12_goesIn 0 [some (.ref l0), some (.int l1), some (.int l2), some (.int l3), none, none, none, none] [] h none z := by
  unfold D_X12_goesIn at hq
  refine st_iload_n (pc := 0) dX12_goesIn_0 rfl ?_
  obtain ⟨q1, e1, hq⟩ := mh_ob hq
  refine st_invS (pc := 1) (Y := mX12_way) (vs := [.int l1]) (rest := []) (st2 := [.int q1.1]) dX12_goesIn_1 okX12_way wd_1282 wd_1283 pdX12_way rfl rfl rfl rfl (Nat.le_trans (by decide) hd) (Nat.le_of_ble_eq_true rfl) (T_X12_way (Nat.le_refl _) e1) rfl ?_
  refine st_istore (pc := 4) (lv' := [some (.ref l0), some (.int l1), some (.int l2), some (.int l3), some (.int q1.1), none, none, none]) dX12_goesIn_4 rfl (by decide) rfl ?_
  refine st_aload_n (pc := 6) dX12_goesIn_6 rfl ?_
  refine bd_getr (pc := 7) hq dX12_goesIn_7 fl_12_9_12 rfl (fun v2 hq => ?_)
  refine st_iload (pc := 10) dX12_goesIn_10 rfl ?_
  refine bd_iald (pc := 12) hq dX12_goesIn_12 (fun v3 hq => ?_)
  refine st_istore (pc := 13) (lv' := [some (.ref l0), some (.int l1), some (.int l2), some (.int l3), some (.int q1.1), some (.int v3), none, none]) dX12_goesIn_13 rfl (by decide) rfl ?_
  refine st_iload_n (pc := 15) dX12_goesIn_15 rfl ?_
  refine st_istore (pc := 16) (lv' := [some (.ref l0), some (.int l1), some (.int l2), some (.int l3), some (.int q1.1), some (.int v3), some (.int l3), none]) dX12_goesIn_16 rfl (by decide) rfl ?_
  refine st_iload_n (pc := 18) dX12_goesIn_18 rfl ?_
  refine bd_if_le (pc := 19) (tgt := 68) hq dX12_goesIn_19 (by decide) (fun _ hq => ?_) (fun _ hq => ?_)
  ·
    refine st_lesS (lv' := [some (.ref l0), none, some (.int l2), none, some (.int q1.1), some (.int v3), some (.int l3), none]) ⟨Or.inr rfl, Or.inl rfl, Or.inr rfl, Or.inl rfl, Or.inr rfl, Or.inr rfl, Or.inr rfl, Or.inr rfl, trivial⟩ ?_
    exact T_X12_goesIn_68 hd hq
  ·
    refine st_iload (pc := 22) dX12_goesIn_22 rfl ?_
    refine st_iconst (pc := 24) (v := (2 : Int32)) dX12_goesIn_24 rfl ?_
    obtain ⟨q4, e4, hq⟩ := mh_ob hq
    refine st_invS (pc := 25) (Y := mX12_isUnder) (vs := [.int v3, .int (2 : Int32)]) (rest := []) (st2 := [.int q4.1]) dX12_goesIn_25 okX12_isUnder wd_1293 wd_1294 pdX12_isUnder rfl rfl rfl rfl (Nat.le_trans (by decide) hd) (Nat.le_of_ble_eq_true rfl) (T_X12_isUnder (Nat.le_refl _) e4) rfl ?_
    refine bd_if_eq (pc := 28) (tgt := 68) hq dX12_goesIn_28 (by decide) (fun _ hq => ?_) (fun _ hq => ?_)
    ·
      refine st_lesS (lv' := [some (.ref l0), none, some (.int l2), none, some (.int q1.1), some (.int v3), some (.int l3), none]) ⟨Or.inr rfl, Or.inl rfl, Or.inr rfl, Or.inl rfl, Or.inr rfl, Or.inr rfl, Or.inr rfl, Or.inr rfl, trivial⟩ ?_
      exact T_X12_goesIn_68 hd hq
    ·
      refine st_iload_n (pc := 31) dX12_goesIn_31 rfl ?_
      refine st_aload_n (pc := 32) dX12_goesIn_32 rfl ?_
      refine bd_getr (pc := 33) hq dX12_goesIn_33 fl_12_9_12 rfl (fun v5 hq => ?_)
      refine st_iload (pc := 36) dX12_goesIn_36 rfl ?_
      refine st_iconst (pc := 38) (v := (4 : Int32)) dX12_goesIn_38 rfl ?_
      refine st_iadd (pc := 39) dX12_goesIn_39 ?_
      refine bd_iald (pc := 40) hq dX12_goesIn_40 (fun v6 hq => ?_)
      refine bd_idiv (pc := 41) hq dX12_goesIn_41 (fun hq => ?_)
      refine st_istore (pc := 42) (lv' := [some (.ref l0), some (.int l1), some (.int l2), some (.int l3), some (.int q1.1), some (.int v3), some (.int l3), some (.int (l3 / v6))]) dX12_goesIn_42 rfl (by decide) rfl ?_
      refine st_aload_n (pc := 44) dX12_goesIn_44 rfl ?_
      refine bd_getr (pc := 45) hq dX12_goesIn_45 fl_12_9_12 rfl (fun v7 hq => ?_)
      refine st_iload_n (pc := 48) dX12_goesIn_48 rfl ?_
      refine st_iconst (pc := 49) (v := (1 : Int32)) dX12_goesIn_49 rfl ?_
      refine st_isub (pc := 50) dX12_goesIn_50 ?_
      refine st_iconst (pc := 51) (v := (2 : Int32)) dX12_goesIn_51 rfl ?_
      obtain ⟨q8, e8, hq⟩ := mh_ob hq
      refine st_invS (pc := 52) (Y := mX12_stuffAt) (vs := [.int (l2 - (1 : Int32)), .int (2 : Int32)]) (rest := [.ref v7]) (st2 := [.int q8.1, .ref v7]) dX12_goesIn_52 okX12_stuffAt wd_1347 wd_1348 pdX12_stuffAt rfl rfl rfl rfl (Nat.le_trans (by decide) hd) (Nat.le_of_ble_eq_true rfl) (T_X12_stuffAt (Nat.le_refl _) e8) rfl ?_
      refine st_dup2 (pc := 55) dX12_goesIn_55 rfl rfl ?_
      refine bd_iald (pc := 56) hq dX12_goesIn_56 (fun v9 hq => ?_)
      refine st_iload (pc := 57) dX12_goesIn_57 rfl ?_
      refine st_iadd (pc := 59) dX12_goesIn_59 ?_
      refine bd_iast (pc := 60) hq dX12_goesIn_60 (fun h10 hq => ?_)
      refine st_iload (pc := 61) dX12_goesIn_61 rfl ?_
      refine st_iload (pc := 63) dX12_goesIn_63 rfl ?_
      refine st_isub (pc := 65) dX12_goesIn_65 ?_
      refine st_istore (pc := 66) (lv' := [some (.ref l0), some (.int l1), some (.int l2), some (.int l3), some (.int q1.1), some (.int v3), some (.int (l3 - (l3 / v6))), some (.int (l3 / v6))]) dX12_goesIn_66 rfl (by decide) rfl ?_
      refine st_lesS (lv' := [some (.ref l0), none, some (.int l2), none, some (.int q1.1), some (.int v3), some (.int (l3 - (l3 / v6))), none]) ⟨Or.inr rfl, Or.inl rfl, Or.inr rfl, Or.inl rfl, Or.inr rfl, Or.inr rfl, Or.inr rfl, Or.inl rfl, trivial⟩ ?_
      exact T_X12_goesIn_68 hd hq
