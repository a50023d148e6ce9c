-- HoleWaterModel.parts(I)I
theorem dX12_parts_100 : decode cX12_parts 100 = .ok (.iinc 4 1, 3) := by decide +kernel
theorem dX12_parts_103 : decode cX12_parts 103 = .ok (.goto (-86), 3) := by decide +kernel
theorem dX12_parts_83 : decode cX12_parts 83 = .ok (.iastore, 1) := by decide +kernel
theorem dX12_parts_84 : decode cX12_parts 84 = .ok (.iload_n 2, 1) := by decide +kernel
theorem dX12_parts_85 : decode cX12_parts 85 = .ok (.aload_n 0, 1) := by decide +kernel
theorem dX12_parts_86 : decode cX12_parts 86 = .ok (.getfield 25, 3) := by decide +kernel
theorem dX12_parts_89 : decode cX12_parts 89 = .ok (.iload 4, 2) := by decide +kernel
theorem dX12_parts_91 : decode cX12_parts 91 = .ok (.iaload, 1) := by decide +kernel
theorem dX12_parts_92 : decode cX12_parts 92 = .ok (.isub, 1) := by decide +kernel
theorem dX12_parts_93 : decode cX12_parts 93 = .ok (.istore_n 2, 1) := by decide +kernel
theorem dX12_parts_94 : decode cX12_parts 94 = .ok (.goto 6, 3) := by decide +kernel
theorem dX12_parts_177 : decode cX12_parts 177 = .ok (.iinc 5 1, 3) := by decide +kernel
theorem dX12_parts_180 : decode cX12_parts 180 = .ok (.goto (-60), 3) := by decide +kernel
theorem dX12_parts_172 : decode cX12_parts 172 = .ok (.iadd, 1) := by decide +kernel
theorem dX12_parts_173 : decode cX12_parts 173 = .ok (.iastore, 1) := by decide +kernel
theorem dX12_parts_174 : decode cX12_parts 174 = .ok (.iinc 4 (-1), 3) := by decide +kernel
theorem dX12_parts_120 : decode cX12_parts 120 = .ok (.iload 5, 2) := by decide +kernel
theorem dX12_parts_122 : decode cX12_parts 122 = .ok (.aload_n 0, 1) := by decide +kernel
theorem dX12_parts_123 : decode cX12_parts 123 = .ok (.getfield 9, 3) := by decide +kernel
theorem dX12_parts_126 : decode cX12_parts 126 = .ok (.iconst 2, 1) := by decide +kernel
theorem dX12_parts_127 : decode cX12_parts 127 = .ok (.iaload, 1) := by decide +kernel
theorem dX12_parts_128 : decode cX12_parts 128 = .ok (.if_icmp .ge 55, 3) := by decide +kernel
theorem dX12_parts_183 : decode cX12_parts 183 = .ok (.iconst 0, 1) := by decide +kernel
theorem dX12_parts_184 : decode cX12_parts 184 = .ok (.ireturn, 1) := by decide +kernel
theorem dX12_parts_131 : decode cX12_parts 131 = .ok (.aload_n 0, 1) := by decide +kernel
theorem dX12_parts_132 : decode cX12_parts 132 = .ok (.iload 5, 2) := by decide +kernel
theorem dX12_parts_134 : decode cX12_parts 134 = .ok (.iload_n 1, 1) := by decide +kernel
theorem dX12_parts_135 : decode cX12_parts 135 = .ok (.invokevirtual 129, 3) := by decide +kernel
theorem dX12_parts_138 : decode cX12_parts 138 = .ok (.ifCond .eq 39, 3) := by decide +kernel
theorem dX12_parts_141 : decode cX12_parts 141 = .ok (.aload_n 0, 1) := by decide +kernel
theorem dX12_parts_142 : decode cX12_parts 142 = .ok (.iload 5, 2) := by decide +kernel
theorem dX12_parts_144 : decode cX12_parts 144 = .ok (.invokevirtual 132, 3) := by decide +kernel
theorem dX12_parts_147 : decode cX12_parts 147 = .ok (.ifCond .eq 6, 3) := by decide +kernel
theorem dX12_parts_153 : decode cX12_parts 153 = .ok (.aload_n 0, 1) := by decide +kernel
theorem dX12_parts_154 : decode cX12_parts 154 = .ok (.getfield 25, 3) := by decide +kernel
theorem dX12_parts_157 : decode cX12_parts 157 = .ok (.iload 5, 2) := by decide +kernel
theorem dX12_parts_159 : decode cX12_parts 159 = .ok (.iload_n 2, 1) := by decide +kernel
theorem dX12_parts_160 : decode cX12_parts 160 = .ok (.iload_n 3, 1) := by decide +kernel
theorem dX12_parts_161 : decode cX12_parts 161 = .ok (.idiv, 1) := by decide +kernel
theorem dX12_parts_162 : decode cX12_parts 162 = .ok (.iload 4, 2) := by decide +kernel
theorem dX12_parts_164 : decode cX12_parts 164 = .ok (.ifCond .le 7, 3) := by decide +kernel
theorem dX12_parts_171 : decode cX12_parts 171 = .ok (.iconst 0, 1) := by decide +kernel
theorem dX12_parts_167 : decode cX12_parts 167 = .ok (.iconst 1, 1) := by decide +kernel
theorem dX12_parts_168 : decode cX12_parts 168 = .ok (.goto 4, 3) := by decide +kernel
theorem dX12_parts_150 : decode cX12_parts 150 = .ok (.goto 27, 3) := by decide +kernel
theorem dX12_parts_17 : decode cX12_parts 17 = .ok (.iload 4, 2) := by decide +kernel
theorem dX12_parts_19 : decode cX12_parts 19 = .ok (.aload_n 0, 1) := by decide +kernel
theorem dX12_parts_20 : decode cX12_parts 20 = .ok (.getfield 9, 3) := by decide +kernel
theorem dX12_parts_23 : decode cX12_parts 23 = .ok (.iconst 2, 1) := by decide +kernel
theorem dX12_parts_24 : decode cX12_parts 24 = .ok (.iaload, 1) := by decide +kernel
theorem dX12_parts_25 : decode cX12_parts 25 = .ok (.if_icmp .ge 81, 3) := by decide +kernel
theorem dX12_parts_106 : decode cX12_parts 106 = .ok (.iload_n 3, 1) := by decide +kernel
theorem dX12_parts_107 : decode cX12_parts 107 = .ok (.ifCond .ne 5, 3) := by decide +kernel
theorem dX12_parts_110 : decode cX12_parts 110 = .ok (.iload_n 2, 1) := by decide +kernel
theorem dX12_parts_111 : decode cX12_parts 111 = .ok (.ireturn, 1) := by decide +kernel
theorem dX12_parts_112 : decode cX12_parts 112 = .ok (.iload_n 2, 1) := by decide +kernel
theorem dX12_parts_113 : decode cX12_parts 113 = .ok (.iload_n 3, 1) := by decide +kernel
theorem dX12_parts_114 : decode cX12_parts 114 = .ok (.irem, 1) := by decide +kernel
theorem dX12_parts_115 : decode cX12_parts 115 = .ok (.istore 4, 2) := by decide +kernel
theorem dX12_parts_117 : decode cX12_parts 117 = .ok (.iconst 0, 1) := by decide +kernel
theorem dX12_parts_118 : decode cX12_parts 118 = .ok (.istore 5, 2) := by decide +kernel
theorem dX12_parts_28 : decode cX12_parts 28 = .ok (.aload_n 0, 1) := by decide +kernel
theorem dX12_parts_29 : decode cX12_parts 29 = .ok (.iload 4, 2) := by decide +kernel
theorem dX12_parts_31 : decode cX12_parts 31 = .ok (.iload_n 1, 1) := by decide +kernel
theorem dX12_parts_32 : decode cX12_parts 32 = .ok (.invokevirtual 129, 3) := by decide +kernel
theorem dX12_parts_35 : decode cX12_parts 35 = .ok (.ifCond .ne 6, 3) := by decide +kernel
theorem dX12_parts_38 : decode cX12_parts 38 = .ok (.goto 62, 3) := by decide +kernel
theorem dX12_parts_41 : decode cX12_parts 41 = .ok (.aload_n 0, 1) := by decide +kernel
theorem dX12_parts_42 : decode cX12_parts 42 = .ok (.iload 4, 2) := by decide +kernel
theorem dX12_parts_44 : decode cX12_parts 44 = .ok (.invokevirtual 132, 3) := by decide +kernel
theorem dX12_parts_47 : decode cX12_parts 47 = .ok (.ifCond .eq 50, 3) := by decide +kernel
theorem dX12_parts_97 : decode cX12_parts 97 = .ok (.iinc 3 1, 3) := by decide +kernel
theorem dX12_parts_50 : decode cX12_parts 50 = .ok (.iload_n 2, 1) := by decide +kernel
theorem dX12_parts_51 : decode cX12_parts 51 = .ok (.aload_n 0, 1) := by decide +kernel
theorem dX12_parts_52 : decode cX12_parts 52 = .ok (.getfield 9, 3) := by decide +kernel
theorem dX12_parts_55 : decode cX12_parts 55 = .ok (.iload 4, 2) := by decide +kernel
theorem dX12_parts_57 : decode cX12_parts 57 = .ok (.invokestatic 99, 3) := by decide +kernel
theorem dX12_parts_60 : decode cX12_parts 60 = .ok (.iconst 4, 1) := by decide +kernel
theorem dX12_parts_61 : decode cX12_parts 61 = .ok (.iadd, 1) := by decide +kernel
theorem dX12_parts_62 : decode cX12_parts 62 = .ok (.iaload, 1) := by decide +kernel
theorem dX12_parts_63 : decode cX12_parts 63 = .ok (.isub, 1) := by decide +kernel
theorem dX12_parts_64 : decode cX12_parts 64 = .ok (.istore 5, 2) := by decide +kernel
theorem dX12_parts_66 : decode cX12_parts 66 = .ok (.aload_n 0, 1) := by decide +kernel
theorem dX12_parts_67 : decode cX12_parts 67 = .ok (.getfield 25, 3) := by decide +kernel
theorem dX12_parts_70 : decode cX12_parts 70 = .ok (.iload 4, 2) := by decide +kernel
theorem dX12_parts_72 : decode cX12_parts 72 = .ok (.iload 5, 2) := by decide +kernel
theorem dX12_parts_74 : decode cX12_parts 74 = .ok (.ifCond .le 8, 3) := by decide +kernel
theorem dX12_parts_82 : decode cX12_parts 82 = .ok (.iconst 0, 1) := by decide +kernel
theorem dX12_parts_77 : decode cX12_parts 77 = .ok (.iload 5, 2) := by decide +kernel
theorem dX12_parts_79 : decode cX12_parts 79 = .ok (.goto 4, 3) := by decide +kernel
theorem dX12_parts_0 : decode cX12_parts 0 = .ok (.aload_n 0, 1) := by decide +kernel
theorem dX12_parts_1 : decode cX12_parts 1 = .ok (.getfield 9, 3) := by decide +kernel
theorem dX12_parts_4 : decode cX12_parts 4 = .ok (.iload_n 1, 1) := by decide +kernel
theorem dX12_parts_5 : decode cX12_parts 5 = .ok (.invokestatic 71, 3) := by decide +kernel
theorem dX12_parts_8 : decode cX12_parts 8 = .ok (.iconst 3, 1) := by decide +kernel
theorem dX12_parts_9 : decode cX12_parts 9 = .ok (.iadd, 1) := by decide +kernel
theorem dX12_parts_10 : decode cX12_parts 10 = .ok (.iaload, 1) := by decide +kernel
theorem dX12_parts_11 : decode cX12_parts 11 = .ok (.istore_n 2, 1) := by decide +kernel
theorem dX12_parts_12 : decode cX12_parts 12 = .ok (.iconst 0, 1) := by decide +kernel
theorem dX12_parts_13 : decode cX12_parts 13 = .ok (.istore_n 3, 1) := by decide +kernel
theorem dX12_parts_14 : decode cX12_parts 14 = .ok (.iconst 0, 1) := by decide +kernel
theorem dX12_parts_15 : decode cX12_parts 15 = .ok (.istore 4, 2) := by decide +kernel
def D_X12_parts_100 (N : Nat) (k17 : mh_H → Nat → Int32 → Int32 → Int32 → Int32 → Option (Int32 × mh_H)) (h : mh_H) (l0 : Nat) (l1 : Int32) (l2 : Int32) (l3 : Int32) (l4 : Int32) : Option (Int32 × mh_H) :=
  k17 h l0 l1 l2 l3 (l4 + Int32.ofInt (1))
set_option maxHeartbeats 4000000 in
set_option maxRecDepth 100000 in
theorem T_X12_parts_100 {P : mh_E → Prop} {N d : Nat} (hd : 3 ≤ d) {z : (Int32 × mh_H)} {k17 : mh_H → Nat → Int32 → Int32 → Int32 → Int32 → Option (Int32 × mh_H)} (hk17 : ∀ (h : mh_H) (l0 : Nat) (l1 : Int32) (l2 : Int32) (l3 : Int32) (l4 : Int32), k17 h l0 l1 l2 l3 l4 = some z → mh_go P d mX12_parts 17 [some (.ref l0), some (.int l1), some (.int l2), some (.int l3), some (.int l4), none] [] h (some (.int z.1)) z.2) {h : mh_H} {l0 : Nat} {l1 : Int32} {l2 : Int32} {l3 : Int32} {l4 : Int32} (hq : D_X12_parts_100 N k17 h l0 l1 l2 l3 l4 = some z) : mh_go P d mX12_parts 100 [some (.ref l0), some (.int l1), some (.int l2), some (.int l3), some (.int l4), none] [] h (some (.int z.1)) z.2 := by
  unfold D_X12_parts_100 at hq
  refine st_iinc (pc := 100) (lv' := [some (.ref l0), some (.int l1), some (.int l2), some (.int l3), some (.int (l4 + Int32.ofInt (1))), none]) dX12_parts_100 rfl rfl (by decide) rfl ?_
  refine st_goto (pc := 103) (tgt := 17) dX12_parts_103 (by decide) ?_
  exact hk17 _ _ _ _ _ _ hq
def D_X12_parts_83 (N : Nat) (k17 : mh_H → Nat → Int32 → Int32 → Int32 → Int32 → Option (Int32 × mh_H)) (h : mh_H) (l0 : Nat) (l1 : Int32) (l2 : Int32) (l3 : Int32) (l4 : Int32) (s0 : Nat) (s1 : Int32) (s2 : Int32) : Option (Int32 × mh_H) :=
  (uI h s0 s1 s2).bind fun h1 =>
  (gR h1 12 l0 6).bind fun v2 =>
  (aI h1 v2 l4).bind fun v3 =>
  D_X12_parts_100 N k17 h1 l0 l1 (l2 - v3) l3 l4
set_option maxHeartbeats 4000000 in
set_option maxRecDepth 100000 in
theorem T_X12_parts_83 {P : mh_E → Prop} {N d : Nat} (hd : 3 ≤ d) {z : (Int32 × mh_H)} {k17 : mh_H → Nat → Int32 → Int32 → Int32 → Int32 → Option (Int32 × mh_H)} (hk17 : ∀ (h : mh_H) (l0 : Nat) (l1 : Int32) (l2 : Int32) (l3 : Int32) (l4 : Int32), k17 h l0 l1 l2 l3 l4 = some z → mh_go P d mX12_parts 17 [some (.ref l0), some (.int l1), some (.int l2), some (.int l3), some (.int l4), none] [] h (some (.int z.1)) z.2) {h : mh_H} {l0 : Nat} {l1 : Int32} {l2 : Int32} {l3 : Int32} {l4 : Int32} {s0 : Nat} {s1 : Int32} {s2 : Int32} (hq : D_X12_parts_83 N k17 h l0 l1 l2 l3 l4 s0 s1 s2 = some z) : mh_go P d mX12_parts 83 [some (.ref l0), some (.int l1), some (.int l2), some (.int l3), some (.int l4), none] [.int s2, .int s1, .ref s0] h (some (.int z.1)) z.2 := by
  unfold D_X12_parts_83 at hq
  refine bd_iast (pc := 83) hq dX12_parts_83 (fun h1 hq => ?_)
  refine st_iload_n (pc := 84) dX12_parts_84 rfl ?_
  refine st_aload_n (pc := 85) dX12_parts_85 rfl ?_
  refine bd_getr (pc := 86) hq dX12_parts_86 fl_12_25_12 rfl (fun v2 hq => ?_)
  refine st_iload (pc := 89) dX12_parts_89 rfl ?_
  refine bd_iald (pc := 91) hq dX12_parts_91 (fun v3 hq => ?_)
  refine st_isub (pc := 92) dX12_parts_92 ?_
  refine st_istore_n (pc := 93) (lv' := [some (.ref l0), some (.int l1), some (.int (l2 - v3)), some (.int l3), some (.int l4), none]) dX12_parts_93 rfl (by decide) rfl ?_
  refine st_goto (pc := 94) (tgt := 100) dX12_parts_94 (by decide) ?_
  exact T_X12_parts_100 hd hk17 hq
def D_X12_parts_177 (N : Nat) (k120 : mh_H → Nat → Int32 → Int32 → Int32 → Int32 → Int32 → Option (Int32 × mh_H)) (h : mh_H) (l0 : Nat) (l1 : Int32) (l2 : Int32) (l3 : Int32) (l4 : Int32) (l5 : Int32) : Option (Int32 × mh_H) :=
  k120 h l0 l1 l2 l3 l4 (l5 + Int32.ofInt (1))
set_option maxHeartbeats 4000000 in
set_option maxRecDepth 100000 in
theorem T_X12_parts_177 {P : mh_E → Prop} {N d : Nat} (hd : 3 ≤ d) {z : (Int32 × mh_H)} {k120 : mh_H → Nat → Int32 → Int32 → Int32 → Int32 → Int32 → Option (Int32 × mh_H)} (hk120 : ∀ (h : mh_H) (l0 : Nat) (l1 : Int32) (l2 : Int32) (l3 : Int32) (l4 : Int32) (l5 : Int32), k120 h l0 l1 l2 l3 l4 l5 = some z → mh_go P d mX12_parts 120 [some (.ref l0), some (.int l1), some (.int l2), some (.int l3), some (.int l4), some (.int l5)] [] h (some (.int z.1)) z.2) {h : mh_H} {l0 : Nat} {l1 : Int32} {l2 : Int32} {l3 : Int32} {l4 : Int32} {l5 : Int32} (hq : D_X12_parts_177 N k120 h l0 l1 l2 l3 l4 l5 = some z) : mh_go P d mX12_parts 177 [some (.ref l0), some (.int l1), some (.int l2), some (.int l3), some (.int l4), some (.int l5)] [] h (some (.int z.1)) z.2 := by
  unfold D_X12_parts_177 at hq
  refine st_iinc (pc := 177) (lv' := [some (.ref l0), some (.int l1), some (.int l2), some (.int l3), some (.int l4), some (.int (l5 + Int32.ofInt (1)))]) dX12_parts_177 rfl rfl (by decide) rfl ?_
  refine st_goto (pc := 180) (tgt := 120) dX12_parts_180 (by decide) ?_
  exact hk120 _ _ _ _ _ _ _ hq
def D_X12_parts_172 (N : Nat) (k120 : mh_H → Nat → Int32 → Int32 → Int32 → Int32 → Int32 → Option (Int32 × mh_H)) (h : mh_H) (l0 : Nat) (l1 : Int32) (l2 : Int32) (l3 : Int32) (l4 : Int32) (l5 : Int32) (s0 : Nat) (s1 : Int32) (s2 : Int32) (s3 : Int32) : Option (Int32 × mh_H) :=
  (uI h s0 s1 (s2 + s3)).bind fun h1 =>
  D_X12_parts_177 N k120 h1 l0 l1 l2 l3 (l4 + Int32.ofInt (-1)) l5
set_option maxHeartbeats 4000000 in
set_option maxRecDepth 100000 in
theorem T_X12_parts_172 {P : mh_E → Prop} {N d : Nat} (hd : 3 ≤ d) {z : (Int32 × mh_H)} {k120 : mh_H → Nat → Int32 → Int32 → Int32 → Int32 → Int32 → Option (Int32 × mh_H)} (hk120 : ∀ (h : mh_H) (l0 : Nat) (l1 : Int32) (l2 : Int32) (l3 : Int32) (l4 : Int32) (l5 : Int32), k120 h l0 l1 l2 l3 l4 l5 = some z → mh_go P d mX12_parts 120 [some (.ref l0), some (.int l1), some (.int l2), some (.int l3), some (.int l4), some (.int l5)] [] h (some (.int z.1)) z.2) {h : mh_H} {l0 : Nat} {l1 : Int32} {l2 : Int32} {l3 : Int32} {l4 : Int32} {l5 : Int32} {s0 : Nat} {s1 : Int32} {s2 : Int32} {s3 : Int32} (hq : D_X12_parts_172 N k120 h l0 l1 l2 l3 l4 l5 s0 s1 s2 s3 = some z) : mh_go P d mX12_parts 172 [some (.ref l0), some (.int l1), some (.int l2), some (.int l3), some (.int l4), some (.int l5)] [.int s3, .int s2, .int s1, .ref s0] h (some (.int z.1)) z.2 := by
  unfold D_X12_parts_172 at hq
  refine st_iadd (pc := 172) dX12_parts_172 ?_
  refine bd_iast (pc := 173) hq dX12_parts_173 (fun h1 hq => ?_)
  refine st_iinc (pc := 174) (lv' := [some (.ref l0), some (.int l1), some (.int l2), some (.int l3), some (.int (l4 + Int32.ofInt (-1))), some (.int l5)]) dX12_parts_174 rfl rfl (by decide) rfl ?_
  exact T_X12_parts_177 hd hk120 hq
def D_X12_parts_120 (N : Nat) : Nat → mh_H → Nat → Int32 → Int32 → Int32 → Int32 → Int32 → Option (Int32 × mh_H)
  | 0, _, _, _, _, _, _, _ => none
  | F + 1, h, l0, l1, l2, l3, l4, l5 =>
    (gR h 12 l0 0).bind fun v1 =>
    (aI h v1 (2 : Int32)).bind fun v2 =>
    if v2 ≤ l5 then (some ((0 : Int32), h))
    else (kO h 12 l0 <|
    (D_X12_isFrom N h l0 l5 l1).bind fun q3 =>
    if q3.1 = 0 then (D_X12_parts_177 N (D_X12_parts_120 N F) q3.2 l0 l1 l2 l3 l4 l5)
    else (kO q3.2 12 l0 <|
    (D_X12_isOverflow N q3.2 l0 l5).bind fun q4 =>
    if q4.1 = 0 then ((gR q4.2 12 l0 6).bind fun v5 =>
    dN l3 <|
    if l4 ≤ 0 then (D_X12_parts_172 N (D_X12_parts_120 N F) q4.2 l0 l1 l2 l3 l4 l5 v5 l5 (l2 / l3) (0 : Int32))
    else (D_X12_parts_172 N (D_X12_parts_120 N F) q4.2 l0 l1 l2 l3 l4 l5 v5 l5 (l2 / l3) (1 : Int32)))
    else (D_X12_parts_177 N (D_X12_parts_120 N F) q4.2 l0 l1 l2 l3 l4 l5)))
set_option maxHeartbeats 4000000 in
set_option maxRecDepth 100000 in
theorem T_X12_parts_120 {P : mh_E → Prop} {N d : Nat} (hd : 3 ≤ d) {z : (Int32 × mh_H)} : ∀ (F : Nat) (h : mh_H) (l0 : Nat) (l1 : Int32) (l2 : Int32) (l3 : Int32) (l4 : Int32) (l5 : Int32), D_X12_parts_120 N F h l0 l1 l2 l3 l4 l5 = some z → mh_go P d mX12_parts 120 [some (.ref l0), some (.int l1), some (.int l2), some (.int l3), some (.int l4), some (.int l5)] [] h (some (.int z.1)) z.2 := by
  intro F
  induction F with
  | zero => intro h l0 l1 l2 l3 l4 l5 hq; rw [D_X12_parts_120] at hq; cases hq
  | succ F ih =>
    intro h l0 l1 l2 l3 l4 l5 hq
    rw [D_X12_parts_120] at hq
    refine st_iload (pc := 120) dX12_parts_120 rfl ?_
    refine st_aload_n (pc := 122) dX12_parts_122 rfl ?_
    refine bd_getr (pc := 123) hq dX12_parts_123 fl_12_9_12 rfl (fun v1 hq => ?_)
    refine st_iconst (pc := 126) (v := (2 : Int32)) dX12_parts_126 rfl ?_
    refine bd_iald (pc := 127) hq dX12_parts_127 (fun v2 hq => ?_)
    refine bd_icmp_ge (pc := 128) (tgt := 183) hq dX12_parts_128 (by decide) (fun _ hq => ?_) (fun _ hq => ?_)
    ·
      refine st_iconst (pc := 183) (v := (0 : Int32)) dX12_parts_183 rfl ?_
      exact bd_iret (pc := 184) hq dX12_parts_184 rfl
    ·
      refine st_aload_n (pc := 131) dX12_parts_131 rfl ?_
      refine st_iload (pc := 132) dX12_parts_132 rfl ?_
      refine st_iload_n (pc := 134) dX12_parts_134 rfl ?_
      obtain ⟨⟨hbq3, hkq3⟩, hq⟩ := mh_oi hq
      obtain ⟨q3, e3, hq⟩ := mh_ob hq
      refine st_invV (pc := 135) (ci := 12) (vs := [.int l5, .int l1]) (rest := []) (st2 := [.int q3.1]) dX12_parts_135 okX12_isFrom (by decide) hkq3 hbq3 wd_1411 wd_1413 wp_55 pdX12_isFrom rfl rfl rfl rfl (Nat.le_trans (by decide) hd) (Nat.le_of_ble_eq_true rfl) (T_X12_isFrom (Nat.le_refl _) e3) rfl ?_
      refine bd_if_eq (pc := 138) (tgt := 177) hq dX12_parts_138 (by decide) (fun _ hq => ?_) (fun _ hq => ?_)
      ·
        exact T_X12_parts_177 hd ih hq
      ·
        refine st_aload_n (pc := 141) dX12_parts_141 rfl ?_
        refine st_iload (pc := 142) dX12_parts_142 rfl ?_
        obtain ⟨⟨hbq4, hkq4⟩, hq⟩ := mh_oi hq
        obtain ⟨q4, e4, hq⟩ := mh_ob hq
        refine st_invV (pc := 144) (ci := 12) (vs := [.int l5]) (rest := []) (st2 := [.int q4.1]) dX12_parts_144 okX12_isOverflow (by decide) hkq4 hbq4 wd_1415 wd_1417 wp_56 pdX12_isOverflow rfl rfl rfl rfl (Nat.le_trans (by decide) hd) (Nat.le_of_ble_eq_true rfl) (T_X12_isOverflow (Nat.le_refl _) e4) rfl ?_
        refine bd_if_eq (pc := 147) (tgt := 153) hq dX12_parts_147 (by decide) (fun _ hq => ?_) (fun _ hq => ?_)
        ·
          refine st_aload_n (pc := 153) dX12_parts_153 rfl ?_
          refine bd_getr (pc := 154) hq dX12_parts_154 fl_12_25_12 rfl (fun v5 hq => ?_)
          refine st_iload (pc := 157) dX12_parts_157 rfl ?_
          refine st_iload_n (pc := 159) dX12_parts_159 rfl ?_
          refine st_iload_n (pc := 160) dX12_parts_160 rfl ?_
          refine bd_idiv (pc := 161) hq dX12_parts_161 (fun hq => ?_)
          refine st_iload (pc := 162) dX12_parts_162 rfl ?_
          refine bd_if_le (pc := 164) (tgt := 171) hq dX12_parts_164 (by decide) (fun _ hq => ?_) (fun _ hq => ?_)
          ·
            refine st_iconst (pc := 171) (v := (0 : Int32)) dX12_parts_171 rfl ?_
            exact T_X12_parts_172 hd ih hq
          ·
            refine st_iconst (pc := 167) (v := (1 : Int32)) dX12_parts_167 rfl ?_
            refine st_goto (pc := 168) (tgt := 172) dX12_parts_168 (by decide) ?_
            exact T_X12_parts_172 hd ih hq
        ·
          refine st_goto (pc := 150) (tgt := 177) dX12_parts_150 (by decide) ?_
          exact T_X12_parts_177 hd ih hq
def D_X12_parts_17 (N : Nat) : Nat → mh_H → Nat → Int32 → Int32 → Int32 → Int32 → Option (Int32 × mh_H)
  | 0, _, _, _, _, _, _ => none
  | F + 1, h, l0, l1, l2, l3, l4 =>
    (gR h 12 l0 0).bind fun v1 =>
    (aI h v1 (2 : Int32)).bind fun v2 =>
    if v2 ≤ l4 then (if l3 = 0 then (some (l2, h))
    else (dN l3 <|
    D_X12_parts_120 N N h l0 l1 l2 l3 (l2 - l2 / l3 * l3) (0 : Int32)))
    else (kO h 12 l0 <|
    (D_X12_isFrom N h l0 l4 l1).bind fun q3 =>
    if q3.1 = 0 then (D_X12_parts_100 N (D_X12_parts_17 N F) q3.2 l0 l1 l2 l3 l4)
    else (kO q3.2 12 l0 <|
    (D_X12_isOverflow N q3.2 l0 l4).bind fun q4 =>
    if q4.1 = 0 then (D_X12_parts_100 N (D_X12_parts_17 N F) q4.2 l0 l1 l2 (l3 + Int32.ofInt (1)) l4)
    else ((gR q4.2 12 l0 0).bind fun v5 =>
    (D_X12_way N q4.2 l4).bind fun q6 =>
    (aI q6.2 v5 (q6.1 + (4 : Int32))).bind fun v7 =>
    (gR q6.2 12 l0 6).bind fun v8 =>
    if (l2 - v7) ≤ 0 then (D_X12_parts_83 N (D_X12_parts_17 N F) q6.2 l0 l1 l2 l3 l4 v8 l4 (0 : Int32))
    else (D_X12_parts_83 N (D_X12_parts_17 N F) q6.2 l0 l1 l2 l3 l4 v8 l4 (l2 - v7)))))
set_option maxHeartbeats 4000000 in
set_option maxRecDepth 100000 in
theorem T_X12_parts_17 {P : mh_E → Prop} {N d : Nat} (hd : 3 ≤ d) {z : (Int32 × mh_H)} : ∀ (F : Nat) (h : mh_H) (l0 : Nat) (l1 : Int32) (l2 : Int32) (l3 : Int32) (l4 : Int32), D_X12_parts_17 N F h l0 l1 l2 l3 l4 = some z → mh_go P d mX12_parts 17 [some (.ref l0), some (.int l1), some (.int l2), some (.int l3), some (.int l4), none] [] h (some (.int z.1)) z.2 := by
  intro F
  induction F with
  | zero => intro h l0 l1 l2 l3 l4 hq; rw [D_X12_parts_17] at hq; cases hq
  | succ F ih =>
    intro h l0 l1 l2 l3 l4 hq
    rw [D_X12_parts_17] at hq
    refine st_iload (pc := 17) dX12_parts_17 rfl ?_
    refine st_aload_n (pc := 19) dX12_parts_19 rfl ?_
    refine bd_getr (pc := 20) hq dX12_parts_20 fl_12_9_12 rfl (fun v1 hq => ?_)
    refine st_iconst (pc := 23) (v := (2 : Int32)) dX12_parts_23 rfl ?_
    refine bd_iald (pc := 24) hq dX12_parts_24 (fun v2 hq => ?_)
    refine bd_icmp_ge (pc := 25) (tgt := 106) hq dX12_parts_25 (by decide) (fun _ hq => ?_) (fun _ hq => ?_)
    ·
      refine st_iload_n (pc := 106) dX12_parts_106 rfl ?_
      refine bd_if_ne (pc := 107) (tgt := 112) hq dX12_parts_107 (by decide) (fun _ hq => ?_) (fun _ hq => ?_)
      ·
        refine st_iload_n (pc := 110) dX12_parts_110 rfl ?_
        exact bd_iret (pc := 111) hq dX12_parts_111 rfl
      ·
        refine st_iload_n (pc := 112) dX12_parts_112 rfl ?_
        refine st_iload_n (pc := 113) dX12_parts_113 rfl ?_
        refine bd_irem (pc := 114) hq dX12_parts_114 (fun hq => ?_)
        refine st_istore (pc := 115) (lv' := [some (.ref l0), some (.int l1), some (.int l2), some (.int l3), some (.int (l2 - l2 / l3 * l3)), none]) dX12_parts_115 rfl (by decide) rfl ?_
        refine st_iconst (pc := 117) (v := (0 : Int32)) dX12_parts_117 rfl ?_
        refine st_istore (pc := 118) (lv' := [some (.ref l0), some (.int l1), some (.int l2), some (.int l3), some (.int (l2 - l2 / l3 * l3)), some (.int (0 : Int32))]) dX12_parts_118 rfl (by decide) rfl ?_
        exact T_X12_parts_120 hd N _ _ _ _ _ _ _ hq
    ·
      refine st_aload_n (pc := 28) dX12_parts_28 rfl ?_
      refine st_iload (pc := 29) dX12_parts_29 rfl ?_
      refine st_iload_n (pc := 31) dX12_parts_31 rfl ?_
      obtain ⟨⟨hbq3, hkq3⟩, hq⟩ := mh_oi hq
      obtain ⟨q3, e3, hq⟩ := mh_ob hq
      refine st_invV (pc := 32) (ci := 12) (vs := [.int l4, .int l1]) (rest := []) (st2 := [.int q3.1]) dX12_parts_32 okX12_isFrom (by decide) hkq3 hbq3 wd_1411 wd_1413 wp_55 pdX12_isFrom rfl rfl rfl rfl (Nat.le_trans (by decide) hd) (Nat.le_of_ble_eq_true rfl) (T_X12_isFrom (Nat.le_refl _) e3) rfl ?_
      refine bd_if_ne (pc := 35) (tgt := 41) hq dX12_parts_35 (by decide) (fun _ hq => ?_) (fun _ hq => ?_)
      ·
        refine st_goto (pc := 38) (tgt := 100) dX12_parts_38 (by decide) ?_
        exact T_X12_parts_100 hd ih hq
      ·
        refine st_aload_n (pc := 41) dX12_parts_41 rfl ?_
        refine st_iload (pc := 42) dX12_parts_42 rfl ?_
        obtain ⟨⟨hbq4, hkq4⟩, hq⟩ := mh_oi hq
        obtain ⟨q4, e4, hq⟩ := mh_ob hq
        refine st_invV (pc := 44) (ci := 12) (vs := [.int l4]) (rest := []) (st2 := [.int q4.1]) dX12_parts_44 okX12_isOverflow (by decide) hkq4 hbq4 wd_1415 wd_1417 wp_56 pdX12_isOverflow rfl rfl rfl rfl (Nat.le_trans (by decide) hd) (Nat.le_of_ble_eq_true rfl) (T_X12_isOverflow (Nat.le_refl _) e4) rfl ?_
        refine bd_if_eq (pc := 47) (tgt := 97) hq dX12_parts_47 (by decide) (fun _ hq => ?_) (fun _ hq => ?_)
        ·
          refine st_iinc (pc := 97) (lv' := [some (.ref l0), some (.int l1), some (.int l2), some (.int (l3 + Int32.ofInt (1))), some (.int l4), none]) dX12_parts_97 rfl rfl (by decide) rfl ?_
          exact T_X12_parts_100 hd ih hq
        ·
          refine st_iload_n (pc := 50) dX12_parts_50 rfl ?_
          refine st_aload_n (pc := 51) dX12_parts_51 rfl ?_
          refine bd_getr (pc := 52) hq dX12_parts_52 fl_12_9_12 rfl (fun v5 hq => ?_)
          refine st_iload (pc := 55) dX12_parts_55 rfl ?_
          obtain ⟨q6, e6, hq⟩ := mh_ob hq
          refine st_invS (pc := 57) (Y := mX12_way) (vs := [.int l4]) (rest := [.ref v5, .int l2]) (st2 := [.int q6.1, .ref v5, .int l2]) dX12_parts_57 okX12_way wd_1309 wd_1310 pdX12_way rfl rfl rfl rfl (Nat.le_trans (by decide) hd) (Nat.le_of_ble_eq_true rfl) (T_X12_way (Nat.le_refl _) e6) rfl ?_
          refine st_iconst (pc := 60) (v := (4 : Int32)) dX12_parts_60 rfl ?_
          refine st_iadd (pc := 61) dX12_parts_61 ?_
          refine bd_iald (pc := 62) hq dX12_parts_62 (fun v7 hq => ?_)
          refine st_isub (pc := 63) dX12_parts_63 ?_
          refine st_istore (pc := 64) (lv' := [some (.ref l0), some (.int l1), some (.int l2), some (.int l3), some (.int l4), some (.int (l2 - v7))]) dX12_parts_64 rfl (by decide) rfl ?_
          refine st_aload_n (pc := 66) dX12_parts_66 rfl ?_
          refine bd_getr (pc := 67) hq dX12_parts_67 fl_12_25_12 rfl (fun v8 hq => ?_)
          refine st_iload (pc := 70) dX12_parts_70 rfl ?_
          refine st_iload (pc := 72) dX12_parts_72 rfl ?_
          refine bd_if_le (pc := 74) (tgt := 82) hq dX12_parts_74 (by decide) (fun _ hq => ?_) (fun _ hq => ?_)
          ·
            refine st_iconst (pc := 82) (v := (0 : Int32)) dX12_parts_82 rfl ?_
            refine st_lesS (lv' := [some (.ref l0), some (.int l1), some (.int l2), some (.int l3), some (.int l4), none]) ⟨Or.inr rfl, Or.inr rfl, Or.inr rfl, Or.inr rfl, Or.inr rfl, Or.inl rfl, trivial⟩ ?_
            exact T_X12_parts_83 hd ih hq
          ·
            refine st_iload (pc := 77) dX12_parts_77 rfl ?_
            refine st_goto (pc := 79) (tgt := 83) dX12_parts_79 (by decide) ?_
            refine st_lesS (lv' := [some (.ref l0), some (.int l1), some (.int l2), some (.int l3), some (.int l4), none]) ⟨Or.inr rfl, Or.inr rfl, Or.inr rfl, Or.inr rfl, Or.inr rfl, Or.inl rfl, trivial⟩ ?_
            exact T_X12_parts_83 hd ih hq
def D_X12_parts (N : Nat) (h : mh_H) (l0 : Nat) (l1 : Int32) : Option (Int32 × mh_H) :=
  (gR h 12 l0 0).bind fun v1 =>
  (D_X12_joint N h l1).bind fun q2 =>
  (aI q2.2 v1 (q2.1 + (3 : Int32))).bind fun v3 =>
  D_X12_parts_17 N N q2.2 l0 l1 v3 (0 : Int32) (0 : Int32)
set_option maxHeartbeats 4000000 in
set_option maxRecDepth 100000 in
theorem T_X12_parts {P : mh_E → Prop} {N d : Nat} (hd : 3 ≤ d) {z : (Int32 × mh_H)} {h : mh_H} {l0 : Nat} {l1 : Int32} (hq : D_X12_parts N h l0 l1 = some z) : mh_go P d mX12_parts 0 [some (.ref l0), some (.int l1), none, none, none, none] [] h (some (.int z.1)) z.2 := by
  unfold D_X12_parts at hq
  refine st_aload_n (pc := 0) dX12_parts_0 rfl ?_
  refine bd_getr (pc := 1) hq dX12_parts_1 fl_12_9_12 rfl (fun v1 hq => ?_)
  refine st_iload_n (pc := 4) dX12_parts_4 rfl ?_
  obtain ⟨q2, e2, hq⟩ := mh_ob hq
  refine st_invS (pc := 5) (Y := mX12_joint) (vs := [.int l1]) (rest := [.ref v1]) (st2 := [.int q2.1, .ref v1]) dX12_parts_5 okX12_joint wd_1279 wd_1280 pdX12_joint rfl rfl rfl rfl (Nat.le_trans (by decide) hd) (Nat.le_of_ble_eq_true rfl) (T_X12_joint (Nat.le_refl _) e2) rfl ?_
  refine st_iconst (pc := 8) (v := (3 : Int32)) dX12_parts_8 rfl ?_
  refine st_iadd (pc := 9) dX12_parts_9 ?_
  refine bd_iald (pc := 10) hq dX12_parts_10 (fun v3 hq => ?_)
  refine st_istore_n (pc := 11) (lv' := [some (.ref l0), some (.int l1), some (.int v3), none, none, none]) dX12_parts_11 rfl (by decide) rfl ?_
  refine st_iconst (pc := 12) (v := (0 : Int32)) dX12_parts_12 rfl ?_
  refine st_istore_n (pc := 13) (lv' := [some (.ref l0), some (.int l1), some (.int v3), some (.int (0 : Int32)), none, none]) dX12_parts_13 rfl (by decide) rfl ?_
  refine st_iconst (pc := 14) (v := (0 : Int32)) dX12_parts_14 rfl ?_
  refine st_istore (pc := 15) (lv' := [some (.ref l0), some (.int l1), some (.int v3), some (.int (0 : Int32)), some (.int (0 : Int32)), none]) dX12_parts_15 rfl (by decide) rfl ?_
  exact T_X12_parts_17 hd N _ _ _ _ _ _ hq
-- HoleWaterModel.goesIn(III)V
theorem dX12_goesIn_94 : decode cX12_goesIn 94 = .ok (.dup2, 1) := by decide +kernel
theorem dX12_goesIn_95 : decode cX12_goesIn 95 = .ok (.iaload, 1) := by decide +kernel
theorem dX12_goesIn_96 : decode cX12_goesIn 96 = .ok (.iload 6, 2) := by decide +kernel
theorem dX12_goesIn_98 : decode cX12_goesIn 98 = .ok (.iadd, 1) := by decide +kernel
theorem dX12_goesIn_99 : decode cX12_goesIn 99 = .ok (.iastore, 1) := by decide +kernel
theorem dX12_goesIn_100 : decode cX12_goesIn 100 = .ok (.goto 32, 3) := by decide +kernel
theorem dX12_goesIn_132 : decode cX12_goesIn 132 = .ok (.return_, 1) := by decide +kernel
theorem dX12_goesIn_68 : decode cX12_goesIn 68 = .ok (.iload 5, 2) := by decide +kernel
theorem dX12_goesIn_70 : decode cX12_goesIn 70 = .ok (.iconst 5, 1) := by decide +kernel
theorem dX12_goesIn_71 : decode cX12_goesIn 71 = .ok (.if_icmp .ne 32, 3) := by decide +kernel
theorem dX12_goesIn_74 : decode cX12_goesIn 74 = .ok (.aload_n 0, 1) := by decide +kernel
theorem dX12_goesIn_75 : decode cX12_goesIn 75 = .ok (.getfield 9, 3) := by decide +kernel
theorem dX12_goesIn_78 : decode cX12_goesIn 78 = .ok (.iload_n 2, 1) := by decide +kernel
theorem dX12_goesIn_79 : decode cX12_goesIn 79 = .ok (.ifCond .ne 8, 3) := by decide +kernel
theorem dX12_goesIn_82 : decode cX12_goesIn 82 = .ok (.bipush 8, 2) := by decide +kernel
theorem dX12_goesIn_84 : decode cX12_goesIn 84 = .ok (.goto 10, 3) := by decide +kernel
theorem dX12_goesIn_87 : decode cX12_goesIn 87 = .ok (.iload_n 2, 1) := by decide +kernel
theorem dX12_goesIn_88 : decode cX12_goesIn 88 = .ok (.iconst 1, 1) := by decide +kernel
theorem dX12_goesIn_89 : decode cX12_goesIn 89 = .ok (.isub, 1) := by decide +kernel
theorem dX12_goesIn_90 : decode cX12_goesIn 90 = .ok (.iconst 4, 1) := by decide +kernel
theorem dX12_goesIn_91 : decode cX12_goesIn 91 = .ok (.invokestatic 123, 3) := by decide +kernel
theorem dX12_goesIn_103 : decode cX12_goesIn 103 = .ok (.aload_n 0, 1) := by decide +kernel
theorem dX12_goesIn_104 : decode cX12_goesIn 104 = .ok (.getfield 9, 3) := by decide +kernel
theorem dX12_goesIn_107 : decode cX12_goesIn 107 = .ok (.iload 4, 2) := by decide +kernel
theorem dX12_goesIn_109 : decode cX12_goesIn 109 = .ok (.bipush 10, 2) := by decide +kernel
theorem dX12_goesIn_111 : decode cX12_goesIn 111 = .ok (.iadd, 1) := by decide +kernel
theorem dX12_goesIn_112 : decode cX12_goesIn 112 = .ok (.iconst 5, 1) := by decide +kernel
theorem dX12_goesIn_113 : decode cX12_goesIn 113 = .ok (.aload_n 0, 1) := by decide +kernel
theorem dX12_goesIn_114 : decode cX12_goesIn 114 = .ok (.getfield 9, 3) := by decide +kernel
theorem dX12_goesIn_117 : decode cX12_goesIn 117 = .ok (.iconst 0, 1) := by decide +kernel
theorem dX12_goesIn_118 : decode cX12_goesIn 118 = .ok (.iaload, 1) := by decide +kernel
theorem dX12_goesIn_119 : decode cX12_goesIn 119 = .ok (.bipush 41, 2) := by decide +kernel
theorem dX12_goesIn_121 : decode cX12_goesIn 121 = .ok (.irem, 1) := by decide +kernel
theorem dX12_goesIn_122 : decode cX12_goesIn 122 = .ok (.imul, 1) := by decide +kernel
theorem dX12_goesIn_123 : decode cX12_goesIn 123 = .ok (.iadd, 1) := by decide +kernel
theorem dX12_goesIn_124 : decode cX12_goesIn 124 = .ok (.iload_n 2, 1) := by decide +kernel
theorem dX12_goesIn_125 : decode cX12_goesIn 125 = .ok (.iadd, 1) := by decide +kernel
theorem dX12_goesIn_126 : decode cX12_goesIn 126 = .ok (.dup2, 1) := by decide +kernel
theorem dX12_goesIn_127 : decode cX12_goesIn 127 = .ok (.iaload, 1) := by decide +kernel
theorem dX12_goesIn_128 : decode cX12_goesIn 128 = .ok (.iload 6, 2) := by decide +kernel
theorem dX12_goesIn_130 : decode cX12_goesIn 130 = .ok (.iadd, 1) := by decide +kernel
theorem dX12_goesIn_131 : decode cX12_goesIn 131 = .ok (.iastore, 1) := by decide +kernel
theorem dX12_goesIn_0 : decode cX12_goesIn 0 = .ok (.iload_n 1, 1) := by decide +kernel
theorem dX12_goesIn_1 : decode cX12_goesIn 1 = .ok (.invokestatic 99, 3) := by decide +kernel
theorem dX12_goesIn_4 : decode cX12_goesIn 4 = .ok (.istore 4, 2) := by decide +kernel
theorem dX12_goesIn_6 : decode cX12_goesIn 6 = .ok (.aload_n 0, 1) := by decide +kernel
theorem dX12_goesIn_7 : decode cX12_goesIn 7 = .ok (.getfield 9, 3) := by decide +kernel
theorem dX12_goesIn_10 : decode cX12_goesIn 10 = .ok (.iload 4, 2) := by decide +kernel
theorem dX12_goesIn_12 : decode cX12_goesIn 12 = .ok (.iaload, 1) := by decide +kernel
theorem dX12_goesIn_13 : decode cX12_goesIn 13 = .ok (.istore 5, 2) := by decide +kernel
theorem dX12_goesIn_15 : decode cX12_goesIn 15 = .ok (.iload_n 3, 1) := by decide +kernel
theorem dX12_goesIn_16 : decode cX12_goesIn 16 = .ok (.istore 6, 2) := by decide +kernel
theorem dX12_goesIn_18 : decode cX12_goesIn 18 = .ok (.iload_n 2, 1) := by decide +kernel
theorem dX12_goesIn_19 : decode cX12_goesIn 19 = .ok (.ifCond .le 49, 3) := by decide +kernel
theorem dX12_goesIn_22 : decode cX12_goesIn 22 = .ok (.iload 5, 2) := by decide +kernel
theorem dX12_goesIn_24 : decode cX12_goesIn 24 = .ok (.iconst 2, 1) := by decide +kernel
theorem dX12_goesIn_25 : decode cX12_goesIn 25 = .ok (.invokestatic 105, 3) := by decide +kernel
theorem dX12_goesIn_28 : decode cX12_goesIn 28 = .ok (.ifCond .eq 40, 3) := by decide +kernel
theorem dX12_goesIn_31 : decode cX12_goesIn 31 = .ok (.iload_n 3, 1) := by decide +kernel
theorem dX12_goesIn_32 : decode cX12_goesIn 32 = .ok (.aload_n 0, 1) := by decide +kernel
theorem dX12_goesIn_33 : decode cX12_goesIn 33 = .ok (.getfield 9, 3) := by decide +kernel
theorem dX12_goesIn_36 : decode cX12_goesIn 36 = .ok (.iload 4, 2) := by decide +kernel
theorem dX12_goesIn_38 : decode cX12_goesIn 38 = .ok (.iconst 4, 1) := by decide +kernel
theorem dX12_goesIn_39 : decode cX12_goesIn 39 = .ok (.iadd, 1) := by decide +kernel
theorem dX12_goesIn_40 : decode cX12_goesIn 40 = .ok (.iaload, 1) := by decide +kernel
theorem dX12_goesIn_41 : decode cX12_goesIn 41 = .ok (.idiv, 1) := by decide +kernel
theorem dX12_goesIn_42 : decode cX12_goesIn 42 = .ok (.istore 7, 2) := by decide +kernel
theorem dX12_goesIn_44 : decode cX12_goesIn 44 = .ok (.aload_n 0, 1) := by decide +kernel
theorem dX12_goesIn_45 : decode cX12_goesIn 45 = .ok (.getfield 9, 3) := by decide +kernel
theorem dX12_goesIn_48 : decode cX12_goesIn 48 = .ok (.iload_n 2, 1) := by decide +kernel
theorem dX12_goesIn_49 : decode cX12_goesIn 49 = .ok (.iconst 1, 1) := by decide +kernel
theorem dX12_goesIn_50 : decode cX12_goesIn 50 = .ok (.isub, 1) := by decide +kernel
theorem dX12_goesIn_51 : decode cX12_goesIn 51 = .ok (.iconst 2, 1) := by decide +kernel
theorem dX12_goesIn_52 : decode cX12_goesIn 52 = .ok (.invokestatic 123, 3) := by decide +kernel
theorem dX12_goesIn_55 : decode cX12_goesIn 55 = .ok (.dup2, 1) := by decide +kernel
theorem dX12_goesIn_56 : decode cX12_goesIn 56 = .ok (.iaload, 1) := by decide +kernel
theorem dX12_goesIn_57 : decode cX12_goesIn 57 = .ok (.iload 7, 2) := by decide +kernel
theorem dX12_goesIn_59 : decode cX12_goesIn 59 = .ok (.iadd, 1) := by decide +kernel
theorem dX12_goesIn_60 : decode cX12_goesIn 60 = .ok (.iastore, 1) := by decide +kernel
theorem dX12_goesIn_61 : decode cX12_goesIn 61 = .ok (.iload 6, 2) := by decide +kernel
theorem dX12_goesIn_63 : decode cX12_goesIn 63 = .ok (.iload 7, 2) := by decide +kernel
theorem dX12_goesIn_65 : decode cX12_goesIn 65 = .ok (.isub, 1) := by decide +kernel
theorem dX12_goesIn_66 : decode cX12_goesIn 66 = .ok (.istore 6, 2) := by decide +kernel
def D_X12_goesIn_94 (N : Nat) (h : mh_H) (l6 : Int32) (s0 : Nat) (s1 : Int32) : Option mh_H :=
  (aI h s0 s1).bind fun v1 =>
  (uI h s0 s1 (v1 + l6)).bind fun h2 =>
  some h2
set_option maxHeartbeats 4000000 in
set_option maxRecDepth 100000 in
theorem T_X12_goesIn_94 {P : mh_E → Prop} {N d : Nat} (hd : 3 ≤ d) {z : mh_H} {h : mh_H} {l6 : Int32} {s0 : Nat} {s1 : Int32} (hq : D_X12_goesIn_94 N h l6 s0 s1 = some z) : mh_go P d mX12_goesIn 94 [none, none, none, none, none, none, some (.int l6), none] [.int s1, .ref s0] h none z := by
  unfold D_X12_goesIn_94 at hq
  refine st_dup2 (pc := 94) dX12_goesIn_94 rfl rfl ?_
  refine bd_iald (pc := 95) hq dX12_goesIn_95 (fun v1 hq => ?_)
  refine st_iload (pc := 96) dX12_goesIn_96 rfl ?_
  refine st_iadd (pc := 98) dX12_goesIn_98 ?_
  refine bd_iast (pc := 99) hq dX12_goesIn_99 (fun h2 hq => ?_)
  refine st_goto (pc := 100) (tgt := 132) dX12_goesIn_100 (by decide) ?_
  exact bd_vret (pc := 132) hq dX12_goesIn_132 rfl
def D_X12_goesIn_68 (N : Nat) (h : mh_H) (l0 : Nat) (l2 : Int32) (l4 : Int32) (l5 : Int32) (l6 : Int32) : Option mh_H :=
  if l5 = (5 : Int32) then ((gR h 12 l0 0).bind fun v1 =>
  if l2 = 0 then (D_X12_goesIn_94 N h l6 v1 (8 : Int32))
  else ((D_X12_stuffAt N h (l2 - (1 : Int32)) (4 : Int32)).bind fun q2 =>
  D_X12_goesIn_94 N q2.2 l6 v1 q2.1))
  else ((gR h 12 l0 0).bind fun v1 =>
  (gR h 12 l0 0).bind fun v2 =>
  (aI h v2 (0 : Int32)).bind fun v3 =>
  dN (41 : Int32) <|
  (aI h v1 (((l4 + (10 : Int32)) + ((5 : Int32) * (v3 - v3 / (41 : Int32) * (41 : Int32)))) + l2)).bind fun v4 =>
  (uI h v1 (((l4 + (10 : Int32)) + ((5 : Int32) * (v3 - v3 / (41 : Int32) * (41 : Int32)))) + l2) (v4 + l6)).bind fun h5 =>
  some h5)
set_option maxHeartbeats 4000000 in
set_option maxRecDepth 100000 in
theorem T_X12_goesIn_68 {P : mh_E → Prop} {N d : Nat} (hd : 3 ≤ d) {z : mh_H} {h : mh_H} {l0 : Nat} {l2 : Int32} {l4 : Int32} {l5 : Int32} {l6 : Int32} (hq : D_X12_goesIn_68 N h l0 l2 l4 l5 l6 = some z) : mh_go P d mX12_goesIn 68 [some (.ref l0), none, some (.int l2), none, some (.int l4), some (.int l5), some (.int l6), none] [] h none z := by
  unfold D_X12_goesIn_68 at hq
  refine st_iload (pc := 68) dX12_goesIn_68 rfl ?_
  refine st_iconst (pc := 70) (v := (5 : Int32)) dX12_goesIn_70 rfl ?_
  refine bd_icmp_ne (pc := 71) (tgt := 103) hq dX12_goesIn_71 (by decide) (fun _ hq => ?_) (fun _ hq => ?_)
  ·
    refine st_aload_n (pc := 74) dX12_goesIn_74 rfl ?_
    refine bd_getr (pc := 75) hq dX12_goesIn_75 fl_12_9_12 rfl (fun v1 hq => ?_)
    refine st_iload_n (pc := 78) dX12_goesIn_78 rfl ?_
    refine bd_if_ne (pc := 79) (tgt := 87) hq dX12_goesIn_79 (by decide) (fun _ hq => ?_) (fun _ hq => ?_)
    ·
      refine st_bipush (pc := 82) (v := (8 : Int32)) dX12_goesIn_82 (by decide) ?_
      refine st_goto (pc := 84) (tgt := 94) dX12_goesIn_84 (by decide) ?_
      refine st_lesS (lv' := [none, none, none, none, none, none, some (.int l6), none]) ⟨Or.inl rfl, Or.inr rfl, Or.inl rfl, Or.inr rfl, Or.inl rfl, Or.inl rfl, Or.inr rfl, Or.inr rfl, trivial⟩ ?_
      exact T_X12_goesIn_94 hd hq
    ·
      refine st_iload_n (pc := 87) dX12_goesIn_87 rfl ?_
      refine st_iconst (pc := 88) (v := (1 : Int32)) dX12_goesIn_88 rfl ?_
      refine st_isub (pc := 89) dX12_goesIn_89 ?_
      refine st_iconst (pc := 90) (v := (4 : Int32)) dX12_goesIn_90 rfl ?_
      obtain ⟨q2, e2, hq⟩ := mh_ob hq
      refine st_invS (pc := 91) (Y := mX12_stuffAt) (vs := [.int (l2 - (1 : Int32)), .int (4 : Int32)]) (rest := [.ref v1]) (st2 := [.int q2.1, .ref v1]) dX12_goesIn_91 okX12_stuffAt wd_1374 wd_1375 pdX12_stuffAt rfl rfl rfl rfl (Nat.le_trans (by decide) hd) (Nat.le_of_ble_eq_true rfl) (T_X12_stuffAt (Nat.le_refl _) e2) rfl ?_
      refine st_lesS (lv' := [none, none, none, none, none, none, some (.int l6), none]) ⟨Or.inl rfl, Or.inr rfl, Or.inl rfl, Or.inr rfl, Or.inl rfl, Or.inl rfl, Or.inr rfl, Or.inr rfl, trivial⟩ ?_
      exact T_X12_goesIn_94 hd hq
  ·
    refine st_aload_n (pc := 103) dX12_goesIn_103 rfl ?_
    refine bd_getr (pc := 104) hq dX12_goesIn_104 fl_12_9_12 rfl (fun v1 hq => ?_)
    refine st_iload (pc := 107) dX12_goesIn_107 rfl ?_
    refine st_bipush (pc := 109) (v := (10 : Int32)) dX12_goesIn_109 (by decide) ?_
    refine st_iadd (pc := 111) dX12_goesIn_111 ?_
    refine st_iconst (pc := 112) (v := (5 : Int32)) dX12_goesIn_112 rfl ?_
    refine st_aload_n (pc := 113) dX12_goesIn_113 rfl ?_
    refine bd_getr (pc := 114) hq dX12_goesIn_114 fl_12_9_12 rfl (fun v2 hq => ?_)
    refine st_iconst (pc := 117) (v := (0 : Int32)) dX12_goesIn_117 rfl ?_
    refine bd_iald (pc := 118) hq dX12_goesIn_118 (fun v3 hq => ?_)
    refine st_bipush (pc := 119) (v := (41 : Int32)) dX12_goesIn_119 (by decide) ?_
    refine bd_irem (pc := 121) hq dX12_goesIn_121 (fun hq => ?_)
    refine st_imul (pc := 122) dX12_goesIn_122 ?_
    refine st_iadd (pc := 123) dX12_goesIn_123 ?_
    refine st_iload_n (pc := 124) dX12_goesIn_124 rfl ?_
    refine st_iadd (pc := 125) dX12_goesIn_125 ?_
    refine st_dup2 (pc := 126) dX12_goesIn_126 rfl rfl ?_
    refine bd_iald (pc := 127) hq dX12_goesIn_127 (fun v4 hq => ?_)
    refine st_iload (pc := 128) dX12_goesIn_128 rfl ?_
    refine st_iadd (pc := 130) dX12_goesIn_130 ?_
    refine bd_iast (pc := 131) hq dX12_goesIn_131 (fun h5 hq => ?_)
    exact bd_vret (pc := 132) hq dX12_goesIn_132 rfl
def D_X12_goesIn (N : Nat) (h : mh_H) (l0 : Nat) (l1 : Int32) (l2 : Int32) (l3 : Int32) : Option mh_H :=
  (D_X12_way N h l1).bind fun q1 =>
  (gR q1.2 12 l0 0).bind fun v2 =>
  (aI q1.2 v2 q1.1).bind fun v3 =>
  if l2 ≤ 0 then (D_X12_goesIn_68 N q1.2 l0 l2 q1.1 v3 l3)
  else ((D_X12_isUnder N q1.2 v3 (2 : Int32)).bind fun q4 =>
  if q4.1 = 0 then (D_X12_goesIn_68 N q4.2 l0 l2 q1.1 v3 l3)
  else ((gR q4.2 12 l0 0).bind fun v5 =>
  (aI q4.2 v5 (q1.1 + (4 : Int32))).bind fun v6 =>
  dN v6 <|
  (gR q4.2 12 l0 0).bind fun v7 =>
  (D_X12_stuffAt N q4.2 (l2 - (1 : Int32)) (2 : Int32)).bind fun q8 =>
  (aI q8.2 v7 q8.1).bind fun v9 =>
  (uI q8.2 v7 q8.1 (v9 + (l3 / v6))).bind fun h10 =>
  D_X12_goesIn_68 N h10 l0 l2 q1.1 v3 (l3 - (l3 / v6))))
set_option maxHeartbeats 4000000 in
set_option maxRecDepth 100000 in
theorem T_X12_goesIn {P : mh_E → Prop} {N d : Nat} (hd : 3 ≤ d) {z : mh_H} {h : mh_H} {l0 : Nat} {l1 : Int32} {l2 : Int32} {l3 : Int32} (hq : D_X12_goesIn N h l0 l1 l2 l3 = some z) : mh_go P d mX12_goesIn 0 [some (.ref l0), some (.int l1), some (.int l2), some (.int l3), none, none, none, none] [] h none z := by
  unfold D_X12_goesIn at hq
  refine st_iload_n (pc := 0) dX12_goesIn_0 rfl ?_
  obtain ⟨q1, e1, hq⟩ := mh_ob hq
  refine st_invS (pc := 1) (Y := mX12_way) (vs := [.int l1]) (rest := []) (st2 := [.int q1.1]) dX12_goesIn_1 okX12_way wd_1309 wd_1310 pdX12_way rfl rfl rfl rfl (Nat.le_trans (by decide) hd) (Nat.le_of_ble_eq_true rfl) (T_X12_way (Nat.le_refl _) e1) rfl ?_
  refine st_istore (pc := 4) (lv' := [some (.ref l0), some (.int l1), some (.int l2), some (.int l3), some (.int q1.1), none, none, none]) dX12_goesIn_4 rfl (by decide) rfl ?_
  refine st_aload_n (pc := 6) dX12_goesIn_6 rfl ?_
  refine bd_getr (pc := 7) hq dX12_goesIn_7 fl_12_9_12 rfl (fun v2 hq => ?_)
  refine st_iload (pc := 10) dX12_goesIn_10 rfl ?_
  refine bd_iald (pc := 12) hq dX12_goesIn_12 (fun v3 hq => ?_)
  refine st_istore (pc := 13) (lv' := [some (.ref l0), some (.int l1), some (.int l2), some (.int l3), some (.int q1.1), some (.int v3), none, none]) dX12_goesIn_13 rfl (by decide) rfl ?_
  refine st_iload_n (pc := 15) dX12_goesIn_15 rfl ?_
  refine st_istore (pc := 16) (lv' := [some (.ref l0), some (.int l1), some (.int l2), some (.int l3), some (.int q1.1), some (.int v3), some (.int l3), none]) dX12_goesIn_16 rfl (by decide) rfl ?_
  refine st_iload_n (pc := 18) dX12_goesIn_18 rfl ?_
  refine bd_if_le (pc := 19) (tgt := 68) hq dX12_goesIn_19 (by decide) (fun _ hq => ?_) (fun _ hq => ?_)
  ·
    refine st_lesS (lv' := [some (.ref l0), none, some (.int l2), none, some (.int q1.1), some (.int v3), some (.int l3), none]) ⟨Or.inr rfl, Or.inl rfl, Or.inr rfl, Or.inl rfl, Or.inr rfl, Or.inr rfl, Or.inr rfl, Or.inr rfl, trivial⟩ ?_
    exact T_X12_goesIn_68 hd hq
  ·
    refine st_iload (pc := 22) dX12_goesIn_22 rfl ?_
    refine st_iconst (pc := 24) (v := (2 : Int32)) dX12_goesIn_24 rfl ?_
    obtain ⟨q4, e4, hq⟩ := mh_ob hq
    refine st_invS (pc := 25) (Y := mX12_isUnder) (vs := [.int v3, .int (2 : Int32)]) (rest := []) (st2 := [.int q4.1]) dX12_goesIn_25 okX12_isUnder wd_1320 wd_1321 pdX12_isUnder rfl rfl rfl rfl (Nat.le_trans (by decide) hd) (Nat.le_of_ble_eq_true rfl) (T_X12_isUnder (Nat.le_refl _) e4) rfl ?_
    refine bd_if_eq (pc := 28) (tgt := 68) hq dX12_goesIn_28 (by decide) (fun _ hq => ?_) (fun _ hq => ?_)
    ·
      refine st_lesS (lv' := [some (.ref l0), none, some (.int l2), none, some (.int q1.1), some (.int v3), some (.int l3), none]) ⟨Or.inr rfl, Or.inl rfl, Or.inr rfl, Or.inl rfl, Or.inr rfl, Or.inr rfl, Or.inr rfl, Or.inr rfl, trivial⟩ ?_
      exact T_X12_goesIn_68 hd hq
    ·
      refine st_iload_n (pc := 31) dX12_goesIn_31 rfl ?_
      refine st_aload_n (pc := 32) dX12_goesIn_32 rfl ?_
      refine bd_getr (pc := 33) hq dX12_goesIn_33 fl_12_9_12 rfl (fun v5 hq => ?_)
      refine st_iload (pc := 36) dX12_goesIn_36 rfl ?_
      refine st_iconst (pc := 38) (v := (4 : Int32)) dX12_goesIn_38 rfl ?_
      refine st_iadd (pc := 39) dX12_goesIn_39 ?_
      refine bd_iald (pc := 40) hq dX12_goesIn_40 (fun v6 hq => ?_)
      refine bd_idiv (pc := 41) hq dX12_goesIn_41 (fun hq => ?_)
      refine st_istore (pc := 42) (lv' := [some (.ref l0), some (.int l1), some (.int l2), some (.int l3), some (.int q1.1), some (.int v3), some (.int l3), some (.int (l3 / v6))]) dX12_goesIn_42 rfl (by decide) rfl ?_
      refine st_aload_n (pc := 44) dX12_goesIn_44 rfl ?_
      refine bd_getr (pc := 45) hq dX12_goesIn_45 fl_12_9_12 rfl (fun v7 hq => ?_)
      refine st_iload_n (pc := 48) dX12_goesIn_48 rfl ?_
      refine st_iconst (pc := 49) (v := (1 : Int32)) dX12_goesIn_49 rfl ?_
      refine st_isub (pc := 50) dX12_goesIn_50 ?_
      refine st_iconst (pc := 51) (v := (2 : Int32)) dX12_goesIn_51 rfl ?_
      obtain ⟨q8, e8, hq⟩ := mh_ob hq
      refine st_invS (pc := 52) (Y := mX12_stuffAt) (vs := [.int (l2 - (1 : Int32)), .int (2 : Int32)]) (rest := [.ref v7]) (st2 := [.int q8.1, .ref v7]) dX12_goesIn_52 okX12_stuffAt wd_1374 wd_1375 pdX12_stuffAt rfl rfl rfl rfl (Nat.le_trans (by decide) hd) (Nat.le_of_ble_eq_true rfl) (T_X12_stuffAt (Nat.le_refl _) e8) rfl ?_
      refine st_dup2 (pc := 55) dX12_goesIn_55 rfl rfl ?_
      refine bd_iald (pc := 56) hq dX12_goesIn_56 (fun v9 hq => ?_)
      refine st_iload (pc := 57) dX12_goesIn_57 rfl ?_
      refine st_iadd (pc := 59) dX12_goesIn_59 ?_
      refine bd_iast (pc := 60) hq dX12_goesIn_60 (fun h10 hq => ?_)
      refine st_iload (pc := 61) dX12_goesIn_61 rfl ?_
      refine st_iload (pc := 63) dX12_goesIn_63 rfl ?_
      refine st_isub (pc := 65) dX12_goesIn_65 ?_
      refine st_istore (pc := 66) (lv' := [some (.ref l0), some (.int l1), some (.int l2), some (.int l3), some (.int q1.1), some (.int v3), some (.int (l3 - (l3 / v6))), some (.int (l3 / v6))]) dX12_goesIn_66 rfl (by decide) rfl ?_
      refine st_lesS (lv' := [some (.ref l0), none, some (.int l2), none, some (.int q1.1), some (.int v3), some (.int (l3 - (l3 / v6))), none]) ⟨Or.inr rfl, Or.inl rfl, Or.inr rfl, Or.inl rfl, Or.inr rfl, Or.inr rfl, Or.inr rfl, Or.inl rfl, trivial⟩ ?_
      exact T_X12_goesIn_68 hd hq
-- HoleWaterModel.flows(I)V
theorem dX12_flows_79 : decode cX12_flows 79 = .ok (.iinc 6 1, 3) := by decide +kernel
theorem dX12_flows_82 : decode cX12_flows 82 = .ok (.goto (-50), 3) := by decide +kernel
theorem dX12_flows_75 : decode cX12_flows 75 = .ok (.iload 6, 2) := by decide +kernel
theorem dX12_flows_77 : decode cX12_flows 77 = .ok (.istore 5, 2) := by decide +kernel
theorem dX12_flows_133 : decode cX12_flows 133 = .ok (.iinc 6 1, 3) := by decide +kernel
theorem dX12_flows_136 : decode cX12_flows 136 = .ok (.goto (-38), 3) := by decide +kernel
theorem dX12_flows_211 : decode cX12_flows 211 = .ok (.iinc 9 1, 3) := by decide +kernel
theorem dX12_flows_214 : decode cX12_flows 214 = .ok (.goto (-45), 3) := by decide +kernel
theorem dX12_flows_293 : decode cX12_flows 293 = .ok (.iinc 9 1, 3) := by decide +kernel
theorem dX12_flows_296 : decode cX12_flows 296 = .ok (.goto (-76), 3) := by decide +kernel
theorem dX12_flows_289 : decode cX12_flows 289 = .ok (.iadd, 1) := by decide +kernel
theorem dX12_flows_290 : decode cX12_flows 290 = .ok (.invokevirtual 138, 3) := by decide +kernel
theorem dX12_flows_288 : decode cX12_flows 288 = .ok (.iconst 0, 1) := by decide +kernel
theorem dX12_flows_321 : decode cX12_flows 321 = .ok (.iastore, 1) := by decide +kernel
theorem dX12_flows_322 : decode cX12_flows 322 = .ok (.iinc 6 1, 3) := by decide +kernel
theorem dX12_flows_325 : decode cX12_flows 325 = .ok (.goto (-183), 3) := by decide +kernel
theorem dX12_flows_220 : decode cX12_flows 220 = .ok (.iload 9, 2) := by decide +kernel
theorem dX12_flows_222 : decode cX12_flows 222 = .ok (.aload_n 0, 1) := by decide +kernel
theorem dX12_flows_223 : decode cX12_flows 223 = .ok (.getfield 9, 3) := by decide +kernel
theorem dX12_flows_226 : decode cX12_flows 226 = .ok (.iconst 2, 1) := by decide +kernel
theorem dX12_flows_227 : decode cX12_flows 227 = .ok (.iaload, 1) := by decide +kernel
theorem dX12_flows_228 : decode cX12_flows 228 = .ok (.if_icmp .ge 71, 3) := by decide +kernel
theorem dX12_flows_299 : decode cX12_flows 299 = .ok (.aload_n 0, 1) := by decide +kernel
theorem dX12_flows_300 : decode cX12_flows 300 = .ok (.getfield 9, 3) := by decide +kernel
theorem dX12_flows_303 : decode cX12_flows 303 = .ok (.iload_n 2, 1) := by decide +kernel
theorem dX12_flows_304 : decode cX12_flows 304 = .ok (.bipush 7, 2) := by decide +kernel
theorem dX12_flows_306 : decode cX12_flows 306 = .ok (.iadd, 1) := by decide +kernel
theorem dX12_flows_307 : decode cX12_flows 307 = .ok (.iload 6, 2) := by decide +kernel
theorem dX12_flows_309 : decode cX12_flows 309 = .ok (.iadd, 1) := by decide +kernel
theorem dX12_flows_310 : decode cX12_flows 310 = .ok (.iload 4, 2) := by decide +kernel
theorem dX12_flows_312 : decode cX12_flows 312 = .ok (.ifCond .le 8, 3) := by decide +kernel
theorem dX12_flows_320 : decode cX12_flows 320 = .ok (.iconst 0, 1) := by decide +kernel
theorem dX12_flows_315 : decode cX12_flows 315 = .ok (.iload 8, 2) := by decide +kernel
theorem dX12_flows_317 : decode cX12_flows 317 = .ok (.goto 4, 3) := by decide +kernel
theorem dX12_flows_231 : decode cX12_flows 231 = .ok (.aload_n 0, 1) := by decide +kernel
theorem dX12_flows_232 : decode cX12_flows 232 = .ok (.iload 9, 2) := by decide +kernel
theorem dX12_flows_234 : decode cX12_flows 234 = .ok (.iload_n 1, 1) := by decide +kernel
theorem dX12_flows_235 : decode cX12_flows 235 = .ok (.invokevirtual 129, 3) := by decide +kernel
theorem dX12_flows_238 : decode cX12_flows 238 = .ok (.ifCond .ne 6, 3) := by decide +kernel
theorem dX12_flows_241 : decode cX12_flows 241 = .ok (.goto 52, 3) := by decide +kernel
theorem dX12_flows_244 : decode cX12_flows 244 = .ok (.iload 7, 2) := by decide +kernel
theorem dX12_flows_246 : decode cX12_flows 246 = .ok (.i2l, 1) := by decide +kernel
theorem dX12_flows_247 : decode cX12_flows 247 = .ok (.aload_n 0, 1) := by decide +kernel
theorem dX12_flows_248 : decode cX12_flows 248 = .ok (.getfield 25, 3) := by decide +kernel
theorem dX12_flows_251 : decode cX12_flows 251 = .ok (.iload 9, 2) := by decide +kernel
theorem dX12_flows_253 : decode cX12_flows 253 = .ok (.iaload, 1) := by decide +kernel
theorem dX12_flows_254 : decode cX12_flows 254 = .ok (.i2l, 1) := by decide +kernel
theorem dX12_flows_255 : decode cX12_flows 255 = .ok (.lmul, 1) := by decide +kernel
theorem dX12_flows_256 : decode cX12_flows 256 = .ok (.iload_n 3, 1) := by decide +kernel
theorem dX12_flows_257 : decode cX12_flows 257 = .ok (.i2l, 1) := by decide +kernel
theorem dX12_flows_258 : decode cX12_flows 258 = .ok (.ldiv, 1) := by decide +kernel
theorem dX12_flows_259 : decode cX12_flows 259 = .ok (.l2i, 1) := by decide +kernel
theorem dX12_flows_260 : decode cX12_flows 260 = .ok (.istore 10, 2) := by decide +kernel
theorem dX12_flows_262 : decode cX12_flows 262 = .ok (.aload_n 0, 1) := by decide +kernel
theorem dX12_flows_263 : decode cX12_flows 263 = .ok (.iload 9, 2) := by decide +kernel
theorem dX12_flows_265 : decode cX12_flows 265 = .ok (.iconst 1, 1) := by decide +kernel
theorem dX12_flows_266 : decode cX12_flows 266 = .ok (.iload 6, 2) := by decide +kernel
theorem dX12_flows_268 : decode cX12_flows 268 = .ok (.iadd, 1) := by decide +kernel
theorem dX12_flows_269 : decode cX12_flows 269 = .ok (.iload 10, 2) := by decide +kernel
theorem dX12_flows_271 : decode cX12_flows 271 = .ok (.iload 4, 2) := by decide +kernel
theorem dX12_flows_273 : decode cX12_flows 273 = .ok (.ifCond .ne 15, 3) := by decide +kernel
theorem dX12_flows_276 : decode cX12_flows 276 = .ok (.iload 9, 2) := by decide +kernel
theorem dX12_flows_278 : decode cX12_flows 278 = .ok (.iload 5, 2) := by decide +kernel
theorem dX12_flows_280 : decode cX12_flows 280 = .ok (.if_icmp .ne 8, 3) := by decide +kernel
theorem dX12_flows_283 : decode cX12_flows 283 = .ok (.iload 8, 2) := by decide +kernel
theorem dX12_flows_285 : decode cX12_flows 285 = .ok (.goto 4, 3) := by decide +kernel
theorem dX12_flows_169 : decode cX12_flows 169 = .ok (.iload 9, 2) := by decide +kernel
theorem dX12_flows_171 : decode cX12_flows 171 = .ok (.aload_n 0, 1) := by decide +kernel
theorem dX12_flows_172 : decode cX12_flows 172 = .ok (.getfield 9, 3) := by decide +kernel
theorem dX12_flows_175 : decode cX12_flows 175 = .ok (.iconst 2, 1) := by decide +kernel
theorem dX12_flows_176 : decode cX12_flows 176 = .ok (.iaload, 1) := by decide +kernel
theorem dX12_flows_177 : decode cX12_flows 177 = .ok (.if_icmp .ge 40, 3) := by decide +kernel
theorem dX12_flows_217 : decode cX12_flows 217 = .ok (.iconst 0, 1) := by decide +kernel
theorem dX12_flows_218 : decode cX12_flows 218 = .ok (.istore 9, 2) := by decide +kernel
theorem dX12_flows_180 : decode cX12_flows 180 = .ok (.aload_n 0, 1) := by decide +kernel
theorem dX12_flows_181 : decode cX12_flows 181 = .ok (.iload 9, 2) := by decide +kernel
theorem dX12_flows_183 : decode cX12_flows 183 = .ok (.iload_n 1, 1) := by decide +kernel
theorem dX12_flows_184 : decode cX12_flows 184 = .ok (.invokevirtual 129, 3) := by decide +kernel
theorem dX12_flows_187 : decode cX12_flows 187 = .ok (.ifCond .eq 24, 3) := by decide +kernel
theorem dX12_flows_190 : decode cX12_flows 190 = .ok (.iload 8, 2) := by decide +kernel
theorem dX12_flows_192 : decode cX12_flows 192 = .ok (.iload 7, 2) := by decide +kernel
theorem dX12_flows_194 : decode cX12_flows 194 = .ok (.i2l, 1) := by decide +kernel
theorem dX12_flows_195 : decode cX12_flows 195 = .ok (.aload_n 0, 1) := by decide +kernel
theorem dX12_flows_196 : decode cX12_flows 196 = .ok (.getfield 25, 3) := by decide +kernel
theorem dX12_flows_199 : decode cX12_flows 199 = .ok (.iload 9, 2) := by decide +kernel
theorem dX12_flows_201 : decode cX12_flows 201 = .ok (.iaload, 1) := by decide +kernel
theorem dX12_flows_202 : decode cX12_flows 202 = .ok (.i2l, 1) := by decide +kernel
theorem dX12_flows_203 : decode cX12_flows 203 = .ok (.lmul, 1) := by decide +kernel
theorem dX12_flows_204 : decode cX12_flows 204 = .ok (.iload_n 3, 1) := by decide +kernel
theorem dX12_flows_205 : decode cX12_flows 205 = .ok (.i2l, 1) := by decide +kernel
theorem dX12_flows_206 : decode cX12_flows 206 = .ok (.ldiv, 1) := by decide +kernel
theorem dX12_flows_207 : decode cX12_flows 207 = .ok (.l2i, 1) := by decide +kernel
theorem dX12_flows_208 : decode cX12_flows 208 = .ok (.isub, 1) := by decide +kernel
theorem dX12_flows_209 : decode cX12_flows 209 = .ok (.istore 8, 2) := by decide +kernel
theorem dX12_flows_142 : decode cX12_flows 142 = .ok (.iload 6, 2) := by decide +kernel
theorem dX12_flows_144 : decode cX12_flows 144 = .ok (.iconst 4, 1) := by decide +kernel
theorem dX12_flows_145 : decode cX12_flows 145 = .ok (.if_icmp .ge 183, 3) := by decide +kernel
theorem dX12_flows_328 : decode cX12_flows 328 = .ok (.return_, 1) := by decide +kernel
theorem dX12_flows_148 : decode cX12_flows 148 = .ok (.aload_n 0, 1) := by decide +kernel
theorem dX12_flows_149 : decode cX12_flows 149 = .ok (.getfield 9, 3) := by decide +kernel
theorem dX12_flows_152 : decode cX12_flows 152 = .ok (.iload_n 2, 1) := by decide +kernel
theorem dX12_flows_153 : decode cX12_flows 153 = .ok (.bipush 7, 2) := by decide +kernel
theorem dX12_flows_155 : decode cX12_flows 155 = .ok (.iadd, 1) := by decide +kernel
theorem dX12_flows_156 : decode cX12_flows 156 = .ok (.iload 6, 2) := by decide +kernel
theorem dX12_flows_158 : decode cX12_flows 158 = .ok (.iadd, 1) := by decide +kernel
theorem dX12_flows_159 : decode cX12_flows 159 = .ok (.iaload, 1) := by decide +kernel
theorem dX12_flows_160 : decode cX12_flows 160 = .ok (.istore 7, 2) := by decide +kernel
theorem dX12_flows_162 : decode cX12_flows 162 = .ok (.iload 7, 2) := by decide +kernel
theorem dX12_flows_164 : decode cX12_flows 164 = .ok (.istore 8, 2) := by decide +kernel
theorem dX12_flows_166 : decode cX12_flows 166 = .ok (.iconst 0, 1) := by decide +kernel
theorem dX12_flows_167 : decode cX12_flows 167 = .ok (.istore 9, 2) := by decide +kernel
theorem dX12_flows_98 : decode cX12_flows 98 = .ok (.iload 6, 2) := by decide +kernel
theorem dX12_flows_100 : decode cX12_flows 100 = .ok (.aload_n 0, 1) := by decide +kernel
theorem dX12_flows_101 : decode cX12_flows 101 = .ok (.getfield 9, 3) := by decide +kernel
theorem dX12_flows_104 : decode cX12_flows 104 = .ok (.iconst 2, 1) := by decide +kernel
theorem dX12_flows_105 : decode cX12_flows 105 = .ok (.iaload, 1) := by decide +kernel
theorem dX12_flows_106 : decode cX12_flows 106 = .ok (.if_icmp .ge 33, 3) := by decide +kernel
theorem dX12_flows_139 : decode cX12_flows 139 = .ok (.iconst 0, 1) := by decide +kernel
theorem dX12_flows_140 : decode cX12_flows 140 = .ok (.istore 6, 2) := by decide +kernel
theorem dX12_flows_109 : decode cX12_flows 109 = .ok (.aload_n 0, 1) := by decide +kernel
theorem dX12_flows_110 : decode cX12_flows 110 = .ok (.iload 6, 2) := by decide +kernel
theorem dX12_flows_112 : decode cX12_flows 112 = .ok (.iload_n 1, 1) := by decide +kernel
theorem dX12_flows_113 : decode cX12_flows 113 = .ok (.invokevirtual 129, 3) := by decide +kernel
theorem dX12_flows_116 : decode cX12_flows 116 = .ok (.ifCond .eq 17, 3) := by decide +kernel
theorem dX12_flows_119 : decode cX12_flows 119 = .ok (.aload_n 0, 1) := by decide +kernel
theorem dX12_flows_120 : decode cX12_flows 120 = .ok (.iload 6, 2) := by decide +kernel
theorem dX12_flows_122 : decode cX12_flows 122 = .ok (.iconst 0, 1) := by decide +kernel
theorem dX12_flows_123 : decode cX12_flows 123 = .ok (.aload_n 0, 1) := by decide +kernel
theorem dX12_flows_124 : decode cX12_flows 124 = .ok (.getfield 25, 3) := by decide +kernel
theorem dX12_flows_127 : decode cX12_flows 127 = .ok (.iload 6, 2) := by decide +kernel
theorem dX12_flows_129 : decode cX12_flows 129 = .ok (.iaload, 1) := by decide +kernel
theorem dX12_flows_130 : decode cX12_flows 130 = .ok (.invokevirtual 138, 3) := by decide +kernel
theorem dX12_flows_32 : decode cX12_flows 32 = .ok (.iload 6, 2) := by decide +kernel
theorem dX12_flows_34 : decode cX12_flows 34 = .ok (.aload_n 0, 1) := by decide +kernel
theorem dX12_flows_35 : decode cX12_flows 35 = .ok (.getfield 9, 3) := by decide +kernel
theorem dX12_flows_38 : decode cX12_flows 38 = .ok (.iconst 2, 1) := by decide +kernel
theorem dX12_flows_39 : decode cX12_flows 39 = .ok (.iaload, 1) := by decide +kernel
theorem dX12_flows_40 : decode cX12_flows 40 = .ok (.if_icmp .ge 45, 3) := by decide +kernel
theorem dX12_flows_85 : decode cX12_flows 85 = .ok (.aload_n 0, 1) := by decide +kernel
theorem dX12_flows_86 : decode cX12_flows 86 = .ok (.getfield 9, 3) := by decide +kernel
theorem dX12_flows_89 : decode cX12_flows 89 = .ok (.iload_n 2, 1) := by decide +kernel
theorem dX12_flows_90 : decode cX12_flows 90 = .ok (.iconst 3, 1) := by decide +kernel
theorem dX12_flows_91 : decode cX12_flows 91 = .ok (.iadd, 1) := by decide +kernel
theorem dX12_flows_92 : decode cX12_flows 92 = .ok (.iload 4, 2) := by decide +kernel
theorem dX12_flows_94 : decode cX12_flows 94 = .ok (.iastore, 1) := by decide +kernel
theorem dX12_flows_95 : decode cX12_flows 95 = .ok (.iconst 0, 1) := by decide +kernel
theorem dX12_flows_96 : decode cX12_flows 96 = .ok (.istore 6, 2) := by decide +kernel
theorem dX12_flows_43 : decode cX12_flows 43 = .ok (.aload_n 0, 1) := by decide +kernel
theorem dX12_flows_44 : decode cX12_flows 44 = .ok (.iload 6, 2) := by decide +kernel
theorem dX12_flows_46 : decode cX12_flows 46 = .ok (.iload_n 1, 1) := by decide +kernel
theorem dX12_flows_47 : decode cX12_flows 47 = .ok (.invokevirtual 129, 3) := by decide +kernel
theorem dX12_flows_50 : decode cX12_flows 50 = .ok (.ifCond .eq 29, 3) := by decide +kernel
theorem dX12_flows_53 : decode cX12_flows 53 = .ok (.iload 5, 2) := by decide +kernel
theorem dX12_flows_55 : decode cX12_flows 55 = .ok (.ifCond .lt 20, 3) := by decide +kernel
theorem dX12_flows_58 : decode cX12_flows 58 = .ok (.aload_n 0, 1) := by decide +kernel
theorem dX12_flows_59 : decode cX12_flows 59 = .ok (.getfield 25, 3) := by decide +kernel
theorem dX12_flows_62 : decode cX12_flows 62 = .ok (.iload 6, 2) := by decide +kernel
theorem dX12_flows_64 : decode cX12_flows 64 = .ok (.iaload, 1) := by decide +kernel
theorem dX12_flows_65 : decode cX12_flows 65 = .ok (.aload_n 0, 1) := by decide +kernel
theorem dX12_flows_66 : decode cX12_flows 66 = .ok (.getfield 25, 3) := by decide +kernel
theorem dX12_flows_69 : decode cX12_flows 69 = .ok (.iload 5, 2) := by decide +kernel
theorem dX12_flows_71 : decode cX12_flows 71 = .ok (.iaload, 1) := by decide +kernel
theorem dX12_flows_72 : decode cX12_flows 72 = .ok (.if_icmp .le 7, 3) := by decide +kernel
theorem dX12_flows_0 : decode cX12_flows 0 = .ok (.iload_n 1, 1) := by decide +kernel
theorem dX12_flows_1 : decode cX12_flows 1 = .ok (.invokestatic 71, 3) := by decide +kernel
theorem dX12_flows_4 : decode cX12_flows 4 = .ok (.istore_n 2, 1) := by decide +kernel
theorem dX12_flows_5 : decode cX12_flows 5 = .ok (.aload_n 0, 1) := by decide +kernel
theorem dX12_flows_6 : decode cX12_flows 6 = .ok (.getfield 9, 3) := by decide +kernel
theorem dX12_flows_9 : decode cX12_flows 9 = .ok (.iload_n 2, 1) := by decide +kernel
theorem dX12_flows_10 : decode cX12_flows 10 = .ok (.iconst 3, 1) := by decide +kernel
theorem dX12_flows_11 : decode cX12_flows 11 = .ok (.iadd, 1) := by decide +kernel
theorem dX12_flows_12 : decode cX12_flows 12 = .ok (.iaload, 1) := by decide +kernel
theorem dX12_flows_13 : decode cX12_flows 13 = .ok (.istore_n 3, 1) := by decide +kernel
theorem dX12_flows_14 : decode cX12_flows 14 = .ok (.iload_n 3, 1) := by decide +kernel
theorem dX12_flows_15 : decode cX12_flows 15 = .ok (.ifCond .ne 4, 3) := by decide +kernel
theorem dX12_flows_18 : decode cX12_flows 18 = .ok (.return_, 1) := by decide +kernel
theorem dX12_flows_19 : decode cX12_flows 19 = .ok (.aload_n 0, 1) := by decide +kernel
theorem dX12_flows_20 : decode cX12_flows 20 = .ok (.iload_n 1, 1) := by decide +kernel
theorem dX12_flows_21 : decode cX12_flows 21 = .ok (.invokevirtual 135, 3) := by decide +kernel
theorem dX12_flows_24 : decode cX12_flows 24 = .ok (.istore 4, 2) := by decide +kernel
theorem dX12_flows_26 : decode cX12_flows 26 = .ok (.iconst (-1), 1) := by decide +kernel
theorem dX12_flows_27 : decode cX12_flows 27 = .ok (.istore 5, 2) := by decide +kernel
theorem dX12_flows_29 : decode cX12_flows 29 = .ok (.iconst 0, 1) := by decide +kernel
theorem dX12_flows_30 : decode cX12_flows 30 = .ok (.istore 6, 2) := by decide +kernel
def D_X12_flows_79 (N : Nat) (k32 : mh_H → Nat → Int32 → Int32 → Int32 → Int32 → Int32 → Int32 → Option mh_H) (h : mh_H) (l0 : Nat) (l1 : Int32) (l2 : Int32) (l3 : Int32) (l4 : Int32) (l5 : Int32) (l6 : Int32) : Option mh_H :=
  k32 h l0 l1 l2 l3 l4 l5 (l6 + Int32.ofInt (1))
set_option maxHeartbeats 4000000 in
set_option maxRecDepth 100000 in
theorem T_X12_flows_79 {P : mh_E → Prop} {N d : Nat} (hd : 4 ≤ d) {z : mh_H} {k32 : mh_H → Nat → Int32 → Int32 → Int32 → Int32 → Int32 → Int32 → Option mh_H} (hk32 : ∀ (h : mh_H) (l0 : Nat) (l1 : Int32) (l2 : Int32) (l3 : Int32) (l4 : Int32) (l5 : Int32) (l6 : Int32), k32 h l0 l1 l2 l3 l4 l5 l6 = some z → mh_go P d mX12_flows 32 [some (.ref l0), some (.int l1), some (.int l2), some (.int l3), some (.int l4), some (.int l5), some (.int l6), none, none, none, none] [] h none z) {h : mh_H} {l0 : Nat} {l1 : Int32} {l2 : Int32} {l3 : Int32} {l4 : Int32} {l5 : Int32} {l6 : Int32} (hq : D_X12_flows_79 N k32 h l0 l1 l2 l3 l4 l5 l6 = some z) : mh_go P d mX12_flows 79 [some (.ref l0), some (.int l1), some (.int l2), some (.int l3), some (.int l4), some (.int l5), some (.int l6), none, none, none, none] [] h none z := by
  unfold D_X12_flows_79 at hq
  refine st_iinc (pc := 79) (lv' := [some (.ref l0), some (.int l1), some (.int l2), some (.int l3), some (.int l4), some (.int l5), some (.int (l6 + Int32.ofInt (1))), none, none, none, none]) dX12_flows_79 rfl rfl (by decide) rfl ?_
  refine st_goto (pc := 82) (tgt := 32) dX12_flows_82 (by decide) ?_
  exact hk32 _ _ _ _ _ _ _ _ hq
def D_X12_flows_75 (N : Nat) (k32 : mh_H → Nat → Int32 → Int32 → Int32 → Int32 → Int32 → Int32 → Option mh_H) (h : mh_H) (l0 : Nat) (l1 : Int32) (l2 : Int32) (l3 : Int32) (l4 : Int32) (l6 : Int32) : Option mh_H :=
  D_X12_flows_79 N k32 h l0 l1 l2 l3 l4 l6 l6
set_option maxHeartbeats 4000000 in
set_option maxRecDepth 100000 in
theorem T_X12_flows_75 {P : mh_E → Prop} {N d : Nat} (hd : 4 ≤ d) {z : mh_H} {k32 : mh_H → Nat → Int32 → Int32 → Int32 → Int32 → Int32 → Int32 → Option mh_H} (hk32 : ∀ (h : mh_H) (l0 : Nat) (l1 : Int32) (l2 : Int32) (l3 : Int32) (l4 : Int32) (l5 : Int32) (l6 : Int32), k32 h l0 l1 l2 l3 l4 l5 l6 = some z → mh_go P d mX12_flows 32 [some (.ref l0), some (.int l1), some (.int l2), some (.int l3), some (.int l4), some (.int l5), some (.int l6), none, none, none, none] [] h none z) {h : mh_H} {l0 : Nat} {l1 : Int32} {l2 : Int32} {l3 : Int32} {l4 : Int32} {l6 : Int32} (hq : D_X12_flows_75 N k32 h l0 l1 l2 l3 l4 l6 = some z) : mh_go P d mX12_flows 75 [some (.ref l0), some (.int l1), some (.int l2), some (.int l3), some (.int l4), none, some (.int l6), none, none, none, none] [] h none z := by
  unfold D_X12_flows_75 at hq
  refine st_iload (pc := 75) dX12_flows_75 rfl ?_
  refine st_istore (pc := 77) (lv' := [some (.ref l0), some (.int l1), some (.int l2), some (.int l3), some (.int l4), some (.int l6), some (.int l6), none, none, none, none]) dX12_flows_77 rfl (by decide) rfl ?_
  exact T_X12_flows_79 hd hk32 hq
def D_X12_flows_133 (N : Nat) (k98 : mh_H → Nat → Int32 → Int32 → Int32 → Int32 → Int32 → Int32 → Option mh_H) (h : mh_H) (l0 : Nat) (l1 : Int32) (l2 : Int32) (l3 : Int32) (l4 : Int32) (l5 : Int32) (l6 : Int32) : Option mh_H :=
  k98 h l0 l1 l2 l3 l4 l5 (l6 + Int32.ofInt (1))
set_option maxHeartbeats 4000000 in
set_option maxRecDepth 100000 in
theorem T_X12_flows_133 {P : mh_E → Prop} {N d : Nat} (hd : 4 ≤ d) {z : mh_H} {k98 : mh_H → Nat → Int32 → Int32 → Int32 → Int32 → Int32 → Int32 → Option mh_H} (hk98 : ∀ (h : mh_H) (l0 : Nat) (l1 : Int32) (l2 : Int32) (l3 : Int32) (l4 : Int32) (l5 : Int32) (l6 : Int32), k98 h l0 l1 l2 l3 l4 l5 l6 = some z → mh_go P d mX12_flows 98 [some (.ref l0), some (.int l1), some (.int l2), some (.int l3), some (.int l4), some (.int l5), some (.int l6), none, none, none, none] [] h none z) {h : mh_H} {l0 : Nat} {l1 : Int32} {l2 : Int32} {l3 : Int32} {l4 : Int32} {l5 : Int32} {l6 : Int32} (hq : D_X12_flows_133 N k98 h l0 l1 l2 l3 l4 l5 l6 = some z) : mh_go P d mX12_flows 133 [some (.ref l0), some (.int l1), some (.int l2), some (.int l3), some (.int l4), some (.int l5), some (.int l6), none, none, none, none] [] h none z := by
  unfold D_X12_flows_133 at hq
  refine st_iinc (pc := 133) (lv' := [some (.ref l0), some (.int l1), some (.int l2), some (.int l3), some (.int l4), some (.int l5), some (.int (l6 + Int32.ofInt (1))), none, none, none, none]) dX12_flows_133 rfl rfl (by decide) rfl ?_
  refine st_goto (pc := 136) (tgt := 98) dX12_flows_136 (by decide) ?_
  exact hk98 _ _ _ _ _ _ _ _ hq
def D_X12_flows_211 (N : Nat) (k142 : mh_H → Nat → Int32 → Int32 → Int32 → Int32 → Int32 → Int32 → Option mh_H) (k169 : mh_H → Nat → Int32 → Int32 → Int32 → Int32 → Int32 → Int32 → Int32 → Int32 → Int32 → Option mh_H) (h : mh_H) (l0 : Nat) (l1 : Int32) (l2 : Int32) (l3 : Int32) (l4 : Int32) (l5 : Int32) (l6 : Int32) (l7 : Int32) (l8 : Int32) (l9 : Int32) : Option mh_H :=
  k169 h l0 l1 l2 l3 l4 l5 l6 l7 l8 (l9 + Int32.ofInt (1))
set_option maxHeartbeats 4000000 in
set_option maxRecDepth 100000 in
theorem T_X12_flows_211 {P : mh_E → Prop} {N d : Nat} (hd : 4 ≤ d) {z : mh_H} {k142 : mh_H → Nat → Int32 → Int32 → Int32 → Int32 → Int32 → Int32 → Option mh_H} (hk142 : ∀ (h : mh_H) (l0 : Nat) (l1 : Int32) (l2 : Int32) (l3 : Int32) (l4 : Int32) (l5 : Int32) (l6 : Int32), k142 h l0 l1 l2 l3 l4 l5 l6 = some z → mh_go P d mX12_flows 142 [some (.ref l0), some (.int l1), some (.int l2), some (.int l3), some (.int l4), some (.int l5), some (.int l6), none, none, none, none] [] h none z) {k169 : mh_H → Nat → Int32 → Int32 → Int32 → Int32 → Int32 → Int32 → Int32 → Int32 → Int32 → Option mh_H} (hk169 : ∀ (h : mh_H) (l0 : Nat) (l1 : Int32) (l2 : Int32) (l3 : Int32) (l4 : Int32) (l5 : Int32) (l6 : Int32) (l7 : Int32) (l8 : Int32) (l9 : Int32), k169 h l0 l1 l2 l3 l4 l5 l6 l7 l8 l9 = some z → mh_go P d mX12_flows 169 [some (.ref l0), some (.int l1), some (.int l2), some (.int l3), some (.int l4), some (.int l5), some (.int l6), some (.int l7), some (.int l8), some (.int l9), none] [] h none z) {h : mh_H} {l0 : Nat} {l1 : Int32} {l2 : Int32} {l3 : Int32} {l4 : Int32} {l5 : Int32} {l6 : Int32} {l7 : Int32} {l8 : Int32} {l9 : Int32} (hq : D_X12_flows_211 N k142 k169 h l0 l1 l2 l3 l4 l5 l6 l7 l8 l9 = some z) : mh_go P d mX12_flows 211 [some (.ref l0), some (.int l1), some (.int l2), some (.int l3), some (.int l4), some (.int l5), some (.int l6), some (.int l7), some (.int l8), some (.int l9), none] [] h none z := by
  unfold D_X12_flows_211 at hq
  refine st_iinc (pc := 211) (lv' := [some (.ref l0), some (.int l1), some (.int l2), some (.int l3), some (.int l4), some (.int l5), some (.int l6), some (.int l7), some (.int l8), some (.int (l9 + Int32.ofInt (1))), none]) dX12_flows_211 rfl rfl (by decide) rfl ?_
  refine st_goto (pc := 214) (tgt := 169) dX12_flows_214 (by decide) ?_
  exact hk169 _ _ _ _ _ _ _ _ _ _ _ hq
def D_X12_flows_293 (N : Nat) (k142 : mh_H → Nat → Int32 → Int32 → Int32 → Int32 → Int32 → Int32 → Option mh_H) (k220 : mh_H → Nat → Int32 → Int32 → Int32 → Int32 → Int32 → Int32 → Int32 → Int32 → Int32 → Option mh_H) (h : mh_H) (l0 : Nat) (l1 : Int32) (l2 : Int32) (l3 : Int32) (l4 : Int32) (l5 : Int32) (l6 : Int32) (l7 : Int32) (l8 : Int32) (l9 : Int32) : Option mh_H :=
  k220 h l0 l1 l2 l3 l4 l5 l6 l7 l8 (l9 + Int32.ofInt (1))
set_option maxHeartbeats 4000000 in
set_option maxRecDepth 100000 in
theorem T_X12_flows_293 {P : mh_E → Prop} {N d : Nat} (hd : 4 ≤ d) {z : mh_H} {k142 : mh_H → Nat → Int32 → Int32 → Int32 → Int32 → Int32 → Int32 → Option mh_H} (hk142 : ∀ (h : mh_H) (l0 : Nat) (l1 : Int32) (l2 : Int32) (l3 : Int32) (l4 : Int32) (l5 : Int32) (l6 : Int32), k142 h l0 l1 l2 l3 l4 l5 l6 = some z → mh_go P d mX12_flows 142 [some (.ref l0), some (.int l1), some (.int l2), some (.int l3), some (.int l4), some (.int l5), some (.int l6), none, none, none, none] [] h none z) {k220 : mh_H → Nat → Int32 → Int32 → Int32 → Int32 → Int32 → Int32 → Int32 → Int32 → Int32 → Option mh_H} (hk220 : ∀ (h : mh_H) (l0 : Nat) (l1 : Int32) (l2 : Int32) (l3 : Int32) (l4 : Int32) (l5 : Int32) (l6 : Int32) (l7 : Int32) (l8 : Int32) (l9 : Int32), k220 h l0 l1 l2 l3 l4 l5 l6 l7 l8 l9 = some z → mh_go P d mX12_flows 220 [some (.ref l0), some (.int l1), some (.int l2), some (.int l3), some (.int l4), some (.int l5), some (.int l6), some (.int l7), some (.int l8), some (.int l9), none] [] h none z) {h : mh_H} {l0 : Nat} {l1 : Int32} {l2 : Int32} {l3 : Int32} {l4 : Int32} {l5 : Int32} {l6 : Int32} {l7 : Int32} {l8 : Int32} {l9 : Int32} (hq : D_X12_flows_293 N k142 k220 h l0 l1 l2 l3 l4 l5 l6 l7 l8 l9 = some z) : mh_go P d mX12_flows 293 [some (.ref l0), some (.int l1), some (.int l2), some (.int l3), some (.int l4), some (.int l5), some (.int l6), some (.int l7), some (.int l8), some (.int l9), none] [] h none z := by
  unfold D_X12_flows_293 at hq
  refine st_iinc (pc := 293) (lv' := [some (.ref l0), some (.int l1), some (.int l2), some (.int l3), some (.int l4), some (.int l5), some (.int l6), some (.int l7), some (.int l8), some (.int (l9 + Int32.ofInt (1))), none]) dX12_flows_293 rfl rfl (by decide) rfl ?_
  refine st_goto (pc := 296) (tgt := 220) dX12_flows_296 (by decide) ?_
  exact hk220 _ _ _ _ _ _ _ _ _ _ _ hq
def D_X12_flows_289 (N : Nat) (k142 : mh_H → Nat → Int32 → Int32 → Int32 → Int32 → Int32 → Int32 → Option mh_H) (k220 : mh_H → Nat → Int32 → Int32 → Int32 → Int32 → Int32 → Int32 → Int32 → Int32 → Int32 → Option mh_H) (h : mh_H) (l0 : Nat) (l1 : Int32) (l2 : Int32) (l3 : Int32) (l4 : Int32) (l5 : Int32) (l6 : Int32) (l7 : Int32) (l8 : Int32) (l9 : Int32) (s0 : Nat) (s1 : Int32) (s2 : Int32) (s3 : Int32) (s4 : Int32) : Option mh_H :=
  kO h 12 s0 <|
  (D_X12_goesIn N h s0 s1 s2 (s3 + s4)).bind fun q1 =>
  D_X12_flows_293 N k142 k220 q1 l0 l1 l2 l3 l4 l5 l6 l7 l8 l9
set_option maxHeartbeats 4000000 in
set_option maxRecDepth 100000 in
theorem T_X12_flows_289 {P : mh_E → Prop} {N d : Nat} (hd : 4 ≤ d) {z : mh_H} {k142 : mh_H → Nat → Int32 → Int32 → Int32 → Int32 → Int32 → Int32 → Option mh_H} (hk142 : ∀ (h : mh_H) (l0 : Nat) (l1 : Int32) (l2 : Int32) (l3 : Int32) (l4 : Int32) (l5 : Int32) (l6 : Int32), k142 h l0 l1 l2 l3 l4 l5 l6 = some z → mh_go P d mX12_flows 142 [some (.ref l0), some (.int l1), some (.int l2), some (.int l3), some (.int l4), some (.int l5), some (.int l6), none, none, none, none] [] h none z) {k220 : mh_H → Nat → Int32 → Int32 → Int32 → Int32 → Int32 → Int32 → Int32 → Int32 → Int32 → Option mh_H} (hk220 : ∀ (h : mh_H) (l0 : Nat) (l1 : Int32) (l2 : Int32) (l3 : Int32) (l4 : Int32) (l5 : Int32) (l6 : Int32) (l7 : Int32) (l8 : Int32) (l9 : Int32), k220 h l0 l1 l2 l3 l4 l5 l6 l7 l8 l9 = some z → mh_go P d mX12_flows 220 [some (.ref l0), some (.int l1), some (.int l2), some (.int l3), some (.int l4), some (.int l5), some (.int l6), some (.int l7), some (.int l8), some (.int l9), none] [] h none z) {h : mh_H} {l0 : Nat} {l1 : Int32} {l2 : Int32} {l3 : Int32} {l4 : Int32} {l5 : Int32} {l6 : Int32} {l7 : Int32} {l8 : Int32} {l9 : Int32} {s0 : Nat} {s1 : Int32} {s2 : Int32} {s3 : Int32} {s4 : Int32} (hq : D_X12_flows_289 N k142 k220 h l0 l1 l2 l3 l4 l5 l6 l7 l8 l9 s0 s1 s2 s3 s4 = some z) : mh_go P d mX12_flows 289 [some (.ref l0), some (.int l1), some (.int l2), some (.int l3), some (.int l4), some (.int l5), some (.int l6), some (.int l7), some (.int l8), some (.int l9), none] [.int s4, .int s3, .int s2, .int s1, .ref s0] h none z := by
  unfold D_X12_flows_289 at hq
  refine st_iadd (pc := 289) dX12_flows_289 ?_
  obtain ⟨⟨hbq1, hkq1⟩, hq⟩ := mh_oi hq
  obtain ⟨q1, e1, hq⟩ := mh_ob hq
  refine st_invV (pc := 290) (ci := 12) (vs := [.int s1, .int s2, .int (s3 + s4)]) (rest := []) (st2 := []) dX12_flows_290 okX12_goesIn (by decide) hkq1 hbq1 wd_1419 wd_1421 wp_57 pdX12_goesIn rfl rfl rfl rfl (Nat.le_trans (by decide) hd) (Nat.le_of_ble_eq_true rfl) (T_X12_goesIn (Nat.le_refl _) e1) rfl ?_
  exact T_X12_flows_293 hd hk142 hk220 hq
def D_X12_flows_288 (N : Nat) (k142 : mh_H → Nat → Int32 → Int32 → Int32 → Int32 → Int32 → Int32 → Option mh_H) (k220 : mh_H → Nat → Int32 → Int32 → Int32 → Int32 → Int32 → Int32 → Int32 → Int32 → Int32 → Option mh_H) (h : mh_H) (l0 : Nat) (l1 : Int32) (l2 : Int32) (l3 : Int32) (l4 : Int32) (l5 : Int32) (l6 : Int32) (l7 : Int32) (l8 : Int32) (l9 : Int32) (s0 : Nat) (s1 : Int32) (s2 : Int32) (s3 : Int32) : Option mh_H :=
  D_X12_flows_289 N k142 k220 h l0 l1 l2 l3 l4 l5 l6 l7 l8 l9 s0 s1 s2 s3 (0 : Int32)
set_option maxHeartbeats 4000000 in
set_option maxRecDepth 100000 in
theorem T_X12_flows_288 {P : mh_E → Prop} {N d : Nat} (hd : 4 ≤ d) {z : mh_H} {k142 : mh_H → Nat → Int32 → Int32 → Int32 → Int32 → Int32 → Int32 → Option mh_H} (hk142 : ∀ (h : mh_H) (l0 : Nat) (l1 : Int32) (l2 : Int32) (l3 : Int32) (l4 : Int32) (l5 : Int32) (l6 : Int32), k142 h l0 l1 l2 l3 l4 l5 l6 = some z → mh_go P d mX12_flows 142 [some (.ref l0), some (.int l1), some (.int l2), some (.int l3), some (.int l4), some (.int l5), some (.int l6), none, none, none, none] [] h none z) {k220 : mh_H → Nat → Int32 → Int32 → Int32 → Int32 → Int32 → Int32 → Int32 → Int32 → Int32 → Option mh_H} (hk220 : ∀ (h : mh_H) (l0 : Nat) (l1 : Int32) (l2 : Int32) (l3 : Int32) (l4 : Int32) (l5 : Int32) (l6 : Int32) (l7 : Int32) (l8 : Int32) (l9 : Int32), k220 h l0 l1 l2 l3 l4 l5 l6 l7 l8 l9 = some z → mh_go P d mX12_flows 220 [some (.ref l0), some (.int l1), some (.int l2), some (.int l3), some (.int l4), some (.int l5), some (.int l6), some (.int l7), some (.int l8), some (.int l9), none] [] h none z) {h : mh_H} {l0 : Nat} {l1 : Int32} {l2 : Int32} {l3 : Int32} {l4 : Int32} {l5 : Int32} {l6 : Int32} {l7 : Int32} {l8 : Int32} {l9 : Int32} {s0 : Nat} {s1 : Int32} {s2 : Int32} {s3 : Int32} (hq : D_X12_flows_288 N k142 k220 h l0 l1 l2 l3 l4 l5 l6 l7 l8 l9 s0 s1 s2 s3 = some z) : mh_go P d mX12_flows 288 [some (.ref l0), some (.int l1), some (.int l2), some (.int l3), some (.int l4), some (.int l5), some (.int l6), some (.int l7), some (.int l8), some (.int l9), none] [.int s3, .int s2, .int s1, .ref s0] h none z := by
  unfold D_X12_flows_288 at hq
  refine st_iconst (pc := 288) (v := (0 : Int32)) dX12_flows_288 rfl ?_
  exact T_X12_flows_289 hd hk142 hk220 hq
def D_X12_flows_321 (N : Nat) (k142 : mh_H → Nat → Int32 → Int32 → Int32 → Int32 → Int32 → Int32 → Option mh_H) (h : mh_H) (l0 : Nat) (l1 : Int32) (l2 : Int32) (l3 : Int32) (l4 : Int32) (l5 : Int32) (l6 : Int32) (s0 : Nat) (s1 : Int32) (s2 : Int32) : Option mh_H :=
  (uI h s0 s1 s2).bind fun h1 =>
  k142 h1 l0 l1 l2 l3 l4 l5 (l6 + Int32.ofInt (1))
set_option maxHeartbeats 4000000 in
set_option maxRecDepth 100000 in
theorem T_X12_flows_321 {P : mh_E → Prop} {N d : Nat} (hd : 4 ≤ d) {z : mh_H} {k142 : mh_H → Nat → Int32 → Int32 → Int32 → Int32 → Int32 → Int32 → Option mh_H} (hk142 : ∀ (h : mh_H) (l0 : Nat) (l1 : Int32) (l2 : Int32) (l3 : Int32) (l4 : Int32) (l5 : Int32) (l6 : Int32), k142 h l0 l1 l2 l3 l4 l5 l6 = some z → mh_go P d mX12_flows 142 [some (.ref l0), some (.int l1), some (.int l2), some (.int l3), some (.int l4), some (.int l5), some (.int l6), none, none, none, none] [] h none z) {h : mh_H} {l0 : Nat} {l1 : Int32} {l2 : Int32} {l3 : Int32} {l4 : Int32} {l5 : Int32} {l6 : Int32} {s0 : Nat} {s1 : Int32} {s2 : Int32} (hq : D_X12_flows_321 N k142 h l0 l1 l2 l3 l4 l5 l6 s0 s1 s2 = some z) : mh_go P d mX12_flows 321 [some (.ref l0), some (.int l1), some (.int l2), some (.int l3), some (.int l4), some (.int l5), some (.int l6), none, none, none, none] [.int s2, .int s1, .ref s0] h none z := by
  unfold D_X12_flows_321 at hq
  refine bd_iast (pc := 321) hq dX12_flows_321 (fun h1 hq => ?_)
  refine st_iinc (pc := 322) (lv' := [some (.ref l0), some (.int l1), some (.int l2), some (.int l3), some (.int l4), some (.int l5), some (.int (l6 + Int32.ofInt (1))), none, none, none, none]) dX12_flows_322 rfl rfl (by decide) rfl ?_
  refine st_goto (pc := 325) (tgt := 142) dX12_flows_325 (by decide) ?_
  exact hk142 _ _ _ _ _ _ _ _ hq
def D_X12_flows_220 (N : Nat) (k142 : mh_H → Nat → Int32 → Int32 → Int32 → Int32 → Int32 → Int32 → Option mh_H) : Nat → mh_H → Nat → Int32 → Int32 → Int32 → Int32 → Int32 → Int32 → Int32 → Int32 → Int32 → Option mh_H
  | 0, _, _, _, _, _, _, _, _, _, _, _ => none
  | F + 1, h, l0, l1, l2, l3, l4, l5, l6, l7, l8, l9 =>
    (gR h 12 l0 0).bind fun v1 =>
    (aI h v1 (2 : Int32)).bind fun v2 =>
    if v2 ≤ l9 then ((gR h 12 l0 0).bind fun v3 =>
    if l4 ≤ 0 then (D_X12_flows_321 N k142 h l0 l1 l2 l3 l4 l5 l6 v3 ((l2 + (7 : Int32)) + l6) (0 : Int32))
    else (D_X12_flows_321 N k142 h l0 l1 l2 l3 l4 l5 l6 v3 ((l2 + (7 : Int32)) + l6) l8))
    else (kO h 12 l0 <|
    (D_X12_isFrom N h l0 l9 l1).bind fun q3 =>
    if q3.1 = 0 then (D_X12_flows_293 N k142 (D_X12_flows_220 N k142 F) q3.2 l0 l1 l2 l3 l4 l5 l6 l7 l8 l9)
    else ((gR q3.2 12 l0 6).bind fun v4 =>
    (aI q3.2 v4 l9).bind fun v5 =>
    dL l3.toInt64 <|
    mh_let (((l7.toInt64 * v5.toInt64) / l3.toInt64).toInt32) fun v6 =>
    if l4 = 0 then (if l9 = l5 then (D_X12_flows_289 N k142 (D_X12_flows_220 N k142 F) q3.2 l0 l1 l2 l3 l4 l5 l6 l7 l8 l9 l0 l9 ((1 : Int32) + l6) v6 l8)
    else (D_X12_flows_288 N k142 (D_X12_flows_220 N k142 F) q3.2 l0 l1 l2 l3 l4 l5 l6 l7 l8 l9 l0 l9 ((1 : Int32) + l6) v6))
    else (D_X12_flows_288 N k142 (D_X12_flows_220 N k142 F) q3.2 l0 l1 l2 l3 l4 l5 l6 l7 l8 l9 l0 l9 ((1 : Int32) + l6) v6)))
set_option maxHeartbeats 4000000 in
set_option maxRecDepth 100000 in
theorem T_X12_flows_220 {P : mh_E → Prop} {N d : Nat} (hd : 4 ≤ d) {z : mh_H} {k142 : mh_H → Nat → Int32 → Int32 → Int32 → Int32 → Int32 → Int32 → Option mh_H} (hk142 : ∀ (h : mh_H) (l0 : Nat) (l1 : Int32) (l2 : Int32) (l3 : Int32) (l4 : Int32) (l5 : Int32) (l6 : Int32), k142 h l0 l1 l2 l3 l4 l5 l6 = some z → mh_go P d mX12_flows 142 [some (.ref l0), some (.int l1), some (.int l2), some (.int l3), some (.int l4), some (.int l5), some (.int l6), none, none, none, none] [] h none z) : ∀ (F : Nat) (h : mh_H) (l0 : Nat) (l1 : Int32) (l2 : Int32) (l3 : Int32) (l4 : Int32) (l5 : Int32) (l6 : Int32) (l7 : Int32) (l8 : Int32) (l9 : Int32), D_X12_flows_220 N k142 F h l0 l1 l2 l3 l4 l5 l6 l7 l8 l9 = some z → mh_go P d mX12_flows 220 [some (.ref l0), some (.int l1), some (.int l2), some (.int l3), some (.int l4), some (.int l5), some (.int l6), some (.int l7), some (.int l8), some (.int l9), none] [] h none z := by
  intro F
  induction F with
  | zero => intro h l0 l1 l2 l3 l4 l5 l6 l7 l8 l9 hq; rw [D_X12_flows_220] at hq; cases hq
  | succ F ih =>
    intro h l0 l1 l2 l3 l4 l5 l6 l7 l8 l9 hq
    rw [D_X12_flows_220] at hq
    refine st_iload (pc := 220) dX12_flows_220 rfl ?_
    refine st_aload_n (pc := 222) dX12_flows_222 rfl ?_
    refine bd_getr (pc := 223) hq dX12_flows_223 fl_12_9_12 rfl (fun v1 hq => ?_)
    refine st_iconst (pc := 226) (v := (2 : Int32)) dX12_flows_226 rfl ?_
    refine bd_iald (pc := 227) hq dX12_flows_227 (fun v2 hq => ?_)
    refine bd_icmp_ge (pc := 228) (tgt := 299) hq dX12_flows_228 (by decide) (fun _ hq => ?_) (fun _ hq => ?_)
    ·
      refine st_aload_n (pc := 299) dX12_flows_299 rfl ?_
      refine bd_getr (pc := 300) hq dX12_flows_300 fl_12_9_12 rfl (fun v3 hq => ?_)
      refine st_iload_n (pc := 303) dX12_flows_303 rfl ?_
      refine st_bipush (pc := 304) (v := (7 : Int32)) dX12_flows_304 (by decide) ?_
      refine st_iadd (pc := 306) dX12_flows_306 ?_
      refine st_iload (pc := 307) dX12_flows_307 rfl ?_
      refine st_iadd (pc := 309) dX12_flows_309 ?_
      refine st_iload (pc := 310) dX12_flows_310 rfl ?_
      refine bd_if_le (pc := 312) (tgt := 320) hq dX12_flows_312 (by decide) (fun _ hq => ?_) (fun _ hq => ?_)
      ·
        refine st_iconst (pc := 320) (v := (0 : Int32)) dX12_flows_320 rfl ?_
        refine st_lesS (lv' := [some (.ref l0), some (.int l1), some (.int l2), some (.int l3), some (.int l4), some (.int l5), some (.int l6), none, none, none, none]) ⟨Or.inr rfl, Or.inr rfl, Or.inr rfl, Or.inr rfl, Or.inr rfl, Or.inr rfl, Or.inr rfl, Or.inl rfl, Or.inl rfl, Or.inl rfl, Or.inr rfl, trivial⟩ ?_
        exact T_X12_flows_321 hd hk142 hq
      ·
        refine st_iload (pc := 315) dX12_flows_315 rfl ?_
        refine st_goto (pc := 317) (tgt := 321) dX12_flows_317 (by decide) ?_
        refine st_lesS (lv' := [some (.ref l0), some (.int l1), some (.int l2), some (.int l3), some (.int l4), some (.int l5), some (.int l6), none, none, none, none]) ⟨Or.inr rfl, Or.inr rfl, Or.inr rfl, Or.inr rfl, Or.inr rfl, Or.inr rfl, Or.inr rfl, Or.inl rfl, Or.inl rfl, Or.inl rfl, Or.inr rfl, trivial⟩ ?_
        exact T_X12_flows_321 hd hk142 hq
    ·
      refine st_aload_n (pc := 231) dX12_flows_231 rfl ?_
      refine st_iload (pc := 232) dX12_flows_232 rfl ?_
      refine st_iload_n (pc := 234) dX12_flows_234 rfl ?_
      obtain ⟨⟨hbq3, hkq3⟩, hq⟩ := mh_oi hq
      obtain ⟨q3, e3, hq⟩ := mh_ob hq
      refine st_invV (pc := 235) (ci := 12) (vs := [.int l9, .int l1]) (rest := []) (st2 := [.int q3.1]) dX12_flows_235 okX12_isFrom (by decide) hkq3 hbq3 wd_1411 wd_1413 wp_55 pdX12_isFrom rfl rfl rfl rfl (Nat.le_trans (by decide) hd) (Nat.le_of_ble_eq_true rfl) (T_X12_isFrom (Nat.le_refl _) e3) rfl ?_
      refine bd_if_ne (pc := 238) (tgt := 244) hq dX12_flows_238 (by decide) (fun _ hq => ?_) (fun _ hq => ?_)
      ·
        refine st_goto (pc := 241) (tgt := 293) dX12_flows_241 (by decide) ?_
        exact T_X12_flows_293 hd hk142 ih hq
      ·
        refine st_iload (pc := 244) dX12_flows_244 rfl ?_
        refine st_i2l (pc := 246) dX12_flows_246 ?_
        refine st_aload_n (pc := 247) dX12_flows_247 rfl ?_
        refine bd_getr (pc := 248) hq dX12_flows_248 fl_12_25_12 rfl (fun v4 hq => ?_)
        refine st_iload (pc := 251) dX12_flows_251 rfl ?_
        refine bd_iald (pc := 253) hq dX12_flows_253 (fun v5 hq => ?_)
        refine st_i2l (pc := 254) dX12_flows_254 ?_
        refine st_lmul (pc := 255) dX12_flows_255 ?_
        refine st_iload_n (pc := 256) dX12_flows_256 rfl ?_
        refine st_i2l (pc := 257) dX12_flows_257 ?_
        refine bd_ldiv (pc := 258) hq dX12_flows_258 (fun hq => ?_)
        refine st_l2i (pc := 259) dX12_flows_259 ?_
        refine bd_leti hq (fun v6 hq => ?_)
        refine st_istore (pc := 260) (lv' := [some (.ref l0), some (.int l1), some (.int l2), some (.int l3), some (.int l4), some (.int l5), some (.int l6), some (.int l7), some (.int l8), some (.int l9), some (.int v6)]) dX12_flows_260 rfl (by decide) rfl ?_
        refine st_aload_n (pc := 262) dX12_flows_262 rfl ?_
        refine st_iload (pc := 263) dX12_flows_263 rfl ?_
        refine st_iconst (pc := 265) (v := (1 : Int32)) dX12_flows_265 rfl ?_
        refine st_iload (pc := 266) dX12_flows_266 rfl ?_
        refine st_iadd (pc := 268) dX12_flows_268 ?_
        refine st_iload (pc := 269) dX12_flows_269 rfl ?_
        refine st_iload (pc := 271) dX12_flows_271 rfl ?_
        refine bd_if_ne (pc := 273) (tgt := 288) hq dX12_flows_273 (by decide) (fun _ hq => ?_) (fun _ hq => ?_)
        ·
          refine st_iload (pc := 276) dX12_flows_276 rfl ?_
          refine st_iload (pc := 278) dX12_flows_278 rfl ?_
          refine bd_icmp_ne (pc := 280) (tgt := 288) hq dX12_flows_280 (by decide) (fun _ hq => ?_) (fun _ hq => ?_)
          ·
            refine st_iload (pc := 283) dX12_flows_283 rfl ?_
            refine st_goto (pc := 285) (tgt := 289) dX12_flows_285 (by decide) ?_
            refine st_lesS (lv' := [some (.ref l0), some (.int l1), some (.int l2), some (.int l3), some (.int l4), some (.int l5), some (.int l6), some (.int l7), some (.int l8), some (.int l9), none]) ⟨Or.inr rfl, Or.inr rfl, Or.inr rfl, Or.inr rfl, Or.inr rfl, Or.inr rfl, Or.inr rfl, Or.inr rfl, Or.inr rfl, Or.inr rfl, Or.inl rfl, trivial⟩ ?_
            exact T_X12_flows_289 hd hk142 ih hq
          ·
            refine st_lesS (lv' := [some (.ref l0), some (.int l1), some (.int l2), some (.int l3), some (.int l4), some (.int l5), some (.int l6), some (.int l7), some (.int l8), some (.int l9), none]) ⟨Or.inr rfl, Or.inr rfl, Or.inr rfl, Or.inr rfl, Or.inr rfl, Or.inr rfl, Or.inr rfl, Or.inr rfl, Or.inr rfl, Or.inr rfl, Or.inl rfl, trivial⟩ ?_
            exact T_X12_flows_288 hd hk142 ih hq
        ·
          refine st_lesS (lv' := [some (.ref l0), some (.int l1), some (.int l2), some (.int l3), some (.int l4), some (.int l5), some (.int l6), some (.int l7), some (.int l8), some (.int l9), none]) ⟨Or.inr rfl, Or.inr rfl, Or.inr rfl, Or.inr rfl, Or.inr rfl, Or.inr rfl, Or.inr rfl, Or.inr rfl, Or.inr rfl, Or.inr rfl, Or.inl rfl, trivial⟩ ?_
          exact T_X12_flows_288 hd hk142 ih hq
def D_X12_flows_169 (N : Nat) (k142 : mh_H → Nat → Int32 → Int32 → Int32 → Int32 → Int32 → Int32 → Option mh_H) : Nat → mh_H → Nat → Int32 → Int32 → Int32 → Int32 → Int32 → Int32 → Int32 → Int32 → Int32 → Option mh_H
  | 0, _, _, _, _, _, _, _, _, _, _, _ => none
  | F + 1, h, l0, l1, l2, l3, l4, l5, l6, l7, l8, l9 =>
    (gR h 12 l0 0).bind fun v1 =>
    (aI h v1 (2 : Int32)).bind fun v2 =>
    if v2 ≤ l9 then (D_X12_flows_220 N k142 N h l0 l1 l2 l3 l4 l5 l6 l7 l8 (0 : Int32))
    else (kO h 12 l0 <|
    (D_X12_isFrom N h l0 l9 l1).bind fun q3 =>
    if q3.1 = 0 then (D_X12_flows_211 N k142 (D_X12_flows_169 N k142 F) q3.2 l0 l1 l2 l3 l4 l5 l6 l7 l8 l9)
    else ((gR q3.2 12 l0 6).bind fun v4 =>
    (aI q3.2 v4 l9).bind fun v5 =>
    dL l3.toInt64 <|
    mh_let (l8 - (((l7.toInt64 * v5.toInt64) / l3.toInt64).toInt32)) fun v6 =>
    D_X12_flows_211 N k142 (D_X12_flows_169 N k142 F) q3.2 l0 l1 l2 l3 l4 l5 l6 l7 v6 l9))
set_option maxHeartbeats 4000000 in
set_option maxRecDepth 100000 in
theorem T_X12_flows_169 {P : mh_E → Prop} {N d : Nat} (hd : 4 ≤ d) {z : mh_H} {k142 : mh_H → Nat → Int32 → Int32 → Int32 → Int32 → Int32 → Int32 → Option mh_H} (hk142 : ∀ (h : mh_H) (l0 : Nat) (l1 : Int32) (l2 : Int32) (l3 : Int32) (l4 : Int32) (l5 : Int32) (l6 : Int32), k142 h l0 l1 l2 l3 l4 l5 l6 = some z → mh_go P d mX12_flows 142 [some (.ref l0), some (.int l1), some (.int l2), some (.int l3), some (.int l4), some (.int l5), some (.int l6), none, none, none, none] [] h none z) : ∀ (F : Nat) (h : mh_H) (l0 : Nat) (l1 : Int32) (l2 : Int32) (l3 : Int32) (l4 : Int32) (l5 : Int32) (l6 : Int32) (l7 : Int32) (l8 : Int32) (l9 : Int32), D_X12_flows_169 N k142 F h l0 l1 l2 l3 l4 l5 l6 l7 l8 l9 = some z → mh_go P d mX12_flows 169 [some (.ref l0), some (.int l1), some (.int l2), some (.int l3), some (.int l4), some (.int l5), some (.int l6), some (.int l7), some (.int l8), some (.int l9), none] [] h none z := by
  intro F
  induction F with
  | zero => intro h l0 l1 l2 l3 l4 l5 l6 l7 l8 l9 hq; rw [D_X12_flows_169] at hq; cases hq
  | succ F ih =>
    intro h l0 l1 l2 l3 l4 l5 l6 l7 l8 l9 hq
    rw [D_X12_flows_169] at hq
    refine st_iload (pc := 169) dX12_flows_169 rfl ?_
    refine st_aload_n (pc := 171) dX12_flows_171 rfl ?_
    refine bd_getr (pc := 172) hq dX12_flows_172 fl_12_9_12 rfl (fun v1 hq => ?_)
    refine st_iconst (pc := 175) (v := (2 : Int32)) dX12_flows_175 rfl ?_
    refine bd_iald (pc := 176) hq dX12_flows_176 (fun v2 hq => ?_)
    refine bd_icmp_ge (pc := 177) (tgt := 217) hq dX12_flows_177 (by decide) (fun _ hq => ?_) (fun _ hq => ?_)
    ·
      refine st_iconst (pc := 217) (v := (0 : Int32)) dX12_flows_217 rfl ?_
      refine st_istore (pc := 218) (lv' := [some (.ref l0), some (.int l1), some (.int l2), some (.int l3), some (.int l4), some (.int l5), some (.int l6), some (.int l7), some (.int l8), some (.int (0 : Int32)), none]) dX12_flows_218 rfl (by decide) rfl ?_
      exact T_X12_flows_220 hd hk142 N _ _ _ _ _ _ _ _ _ _ _ hq
    ·
      refine st_aload_n (pc := 180) dX12_flows_180 rfl ?_
      refine st_iload (pc := 181) dX12_flows_181 rfl ?_
      refine st_iload_n (pc := 183) dX12_flows_183 rfl ?_
      obtain ⟨⟨hbq3, hkq3⟩, hq⟩ := mh_oi hq
      obtain ⟨q3, e3, hq⟩ := mh_ob hq
      refine st_invV (pc := 184) (ci := 12) (vs := [.int l9, .int l1]) (rest := []) (st2 := [.int q3.1]) dX12_flows_184 okX12_isFrom (by decide) hkq3 hbq3 wd_1411 wd_1413 wp_55 pdX12_isFrom rfl rfl rfl rfl (Nat.le_trans (by decide) hd) (Nat.le_of_ble_eq_true rfl) (T_X12_isFrom (Nat.le_refl _) e3) rfl ?_
      refine bd_if_eq (pc := 187) (tgt := 211) hq dX12_flows_187 (by decide) (fun _ hq => ?_) (fun _ hq => ?_)
      ·
        exact T_X12_flows_211 hd hk142 ih hq
      ·
        refine st_iload (pc := 190) dX12_flows_190 rfl ?_
        refine st_iload (pc := 192) dX12_flows_192 rfl ?_
        refine st_i2l (pc := 194) dX12_flows_194 ?_
        refine st_aload_n (pc := 195) dX12_flows_195 rfl ?_
        refine bd_getr (pc := 196) hq dX12_flows_196 fl_12_25_12 rfl (fun v4 hq => ?_)
        refine st_iload (pc := 199) dX12_flows_199 rfl ?_
        refine bd_iald (pc := 201) hq dX12_flows_201 (fun v5 hq => ?_)
        refine st_i2l (pc := 202) dX12_flows_202 ?_
        refine st_lmul (pc := 203) dX12_flows_203 ?_
        refine st_iload_n (pc := 204) dX12_flows_204 rfl ?_
        refine st_i2l (pc := 205) dX12_flows_205 ?_
        refine bd_ldiv (pc := 206) hq dX12_flows_206 (fun hq => ?_)
        refine st_l2i (pc := 207) dX12_flows_207 ?_
        refine st_isub (pc := 208) dX12_flows_208 ?_
        refine bd_leti hq (fun v6 hq => ?_)
        refine st_istore (pc := 209) (lv' := [some (.ref l0), some (.int l1), some (.int l2), some (.int l3), some (.int l4), some (.int l5), some (.int l6), some (.int l7), some (.int v6), some (.int l9), none]) dX12_flows_209 rfl (by decide) rfl ?_
        exact T_X12_flows_211 hd hk142 ih hq
def D_X12_flows_142 (N : Nat) : Nat → mh_H → Nat → Int32 → Int32 → Int32 → Int32 → Int32 → Int32 → Option mh_H
  | 0, _, _, _, _, _, _, _, _ => none
  | F + 1, h, l0, l1, l2, l3, l4, l5, l6 =>
    if (4 : Int32) ≤ l6 then (some h)
    else ((gR h 12 l0 0).bind fun v1 =>
    (aI h v1 ((l2 + (7 : Int32)) + l6)).bind fun v2 =>
    D_X12_flows_169 N (D_X12_flows_142 N F) N h l0 l1 l2 l3 l4 l5 l6 v2 v2 (0 : Int32))
set_option maxHeartbeats 4000000 in
set_option maxRecDepth 100000 in
theorem T_X12_flows_142 {P : mh_E → Prop} {N d : Nat} (hd : 4 ≤ d) {z : mh_H} : ∀ (F : Nat) (h : mh_H) (l0 : Nat) (l1 : Int32) (l2 : Int32) (l3 : Int32) (l4 : Int32) (l5 : Int32) (l6 : Int32), D_X12_flows_142 N F h l0 l1 l2 l3 l4 l5 l6 = some z → mh_go P d mX12_flows 142 [some (.ref l0), some (.int l1), some (.int l2), some (.int l3), some (.int l4), some (.int l5), some (.int l6), none, none, none, none] [] h none z := by
  intro F
  induction F with
  | zero => intro h l0 l1 l2 l3 l4 l5 l6 hq; rw [D_X12_flows_142] at hq; cases hq
  | succ F ih =>
    intro h l0 l1 l2 l3 l4 l5 l6 hq
    rw [D_X12_flows_142] at hq
    refine st_iload (pc := 142) dX12_flows_142 rfl ?_
    refine st_iconst (pc := 144) (v := (4 : Int32)) dX12_flows_144 rfl ?_
    refine bd_icmp_ge (pc := 145) (tgt := 328) hq dX12_flows_145 (by decide) (fun _ hq => ?_) (fun _ hq => ?_)
    ·
      exact bd_vret (pc := 328) hq dX12_flows_328 rfl
    ·
      refine st_aload_n (pc := 148) dX12_flows_148 rfl ?_
      refine bd_getr (pc := 149) hq dX12_flows_149 fl_12_9_12 rfl (fun v1 hq => ?_)
      refine st_iload_n (pc := 152) dX12_flows_152 rfl ?_
      refine st_bipush (pc := 153) (v := (7 : Int32)) dX12_flows_153 (by decide) ?_
      refine st_iadd (pc := 155) dX12_flows_155 ?_
      refine st_iload (pc := 156) dX12_flows_156 rfl ?_
      refine st_iadd (pc := 158) dX12_flows_158 ?_
      refine bd_iald (pc := 159) hq dX12_flows_159 (fun v2 hq => ?_)
      refine st_istore (pc := 160) (lv' := [some (.ref l0), some (.int l1), some (.int l2), some (.int l3), some (.int l4), some (.int l5), some (.int l6), some (.int v2), none, none, none]) dX12_flows_160 rfl (by decide) rfl ?_
      refine st_iload (pc := 162) dX12_flows_162 rfl ?_
      refine st_istore (pc := 164) (lv' := [some (.ref l0), some (.int l1), some (.int l2), some (.int l3), some (.int l4), some (.int l5), some (.int l6), some (.int v2), some (.int v2), none, none]) dX12_flows_164 rfl (by decide) rfl ?_
      refine st_iconst (pc := 166) (v := (0 : Int32)) dX12_flows_166 rfl ?_
      refine st_istore (pc := 167) (lv' := [some (.ref l0), some (.int l1), some (.int l2), some (.int l3), some (.int l4), some (.int l5), some (.int l6), some (.int v2), some (.int v2), some (.int (0 : Int32)), none]) dX12_flows_167 rfl (by decide) rfl ?_
      exact T_X12_flows_169 hd ih N _ _ _ _ _ _ _ _ _ _ _ hq
def D_X12_flows_98 (N : Nat) : Nat → mh_H → Nat → Int32 → Int32 → Int32 → Int32 → Int32 → Int32 → Option mh_H
  | 0, _, _, _, _, _, _, _, _ => none
  | F + 1, h, l0, l1, l2, l3, l4, l5, l6 =>
    (gR h 12 l0 0).bind fun v1 =>
    (aI h v1 (2 : Int32)).bind fun v2 =>
    if v2 ≤ l6 then (D_X12_flows_142 N N h l0 l1 l2 l3 l4 l5 (0 : Int32))
    else (kO h 12 l0 <|
    (D_X12_isFrom N h l0 l6 l1).bind fun q3 =>
    if q3.1 = 0 then (D_X12_flows_133 N (D_X12_flows_98 N F) q3.2 l0 l1 l2 l3 l4 l5 l6)
    else ((gR q3.2 12 l0 6).bind fun v4 =>
    (aI q3.2 v4 l6).bind fun v5 =>
    kO q3.2 12 l0 <|
    (D_X12_goesIn N q3.2 l0 l6 (0 : Int32) v5).bind fun q6 =>
    D_X12_flows_133 N (D_X12_flows_98 N F) q6 l0 l1 l2 l3 l4 l5 l6))
set_option maxHeartbeats 4000000 in
set_option maxRecDepth 100000 in
theorem T_X12_flows_98 {P : mh_E → Prop} {N d : Nat} (hd : 4 ≤ d) {z : mh_H} : ∀ (F : Nat) (h : mh_H) (l0 : Nat) (l1 : Int32) (l2 : Int32) (l3 : Int32) (l4 : Int32) (l5 : Int32) (l6 : Int32), D_X12_flows_98 N F h l0 l1 l2 l3 l4 l5 l6 = some z → mh_go P d mX12_flows 98 [some (.ref l0), some (.int l1), some (.int l2), some (.int l3), some (.int l4), some (.int l5), some (.int l6), none, none, none, none] [] h none z := by
  intro F
  induction F with
  | zero => intro h l0 l1 l2 l3 l4 l5 l6 hq; rw [D_X12_flows_98] at hq; cases hq
  | succ F ih =>
    intro h l0 l1 l2 l3 l4 l5 l6 hq
    rw [D_X12_flows_98] at hq
    refine st_iload (pc := 98) dX12_flows_98 rfl ?_
    refine st_aload_n (pc := 100) dX12_flows_100 rfl ?_
    refine bd_getr (pc := 101) hq dX12_flows_101 fl_12_9_12 rfl (fun v1 hq => ?_)
    refine st_iconst (pc := 104) (v := (2 : Int32)) dX12_flows_104 rfl ?_
    refine bd_iald (pc := 105) hq dX12_flows_105 (fun v2 hq => ?_)
    refine bd_icmp_ge (pc := 106) (tgt := 139) hq dX12_flows_106 (by decide) (fun _ hq => ?_) (fun _ hq => ?_)
    ·
      refine st_iconst (pc := 139) (v := (0 : Int32)) dX12_flows_139 rfl ?_
      refine st_istore (pc := 140) (lv' := [some (.ref l0), some (.int l1), some (.int l2), some (.int l3), some (.int l4), some (.int l5), some (.int (0 : Int32)), none, none, none, none]) dX12_flows_140 rfl (by decide) rfl ?_
      exact T_X12_flows_142 hd N _ _ _ _ _ _ _ _ hq
    ·
      refine st_aload_n (pc := 109) dX12_flows_109 rfl ?_
      refine st_iload (pc := 110) dX12_flows_110 rfl ?_
      refine st_iload_n (pc := 112) dX12_flows_112 rfl ?_
      obtain ⟨⟨hbq3, hkq3⟩, hq⟩ := mh_oi hq
      obtain ⟨q3, e3, hq⟩ := mh_ob hq
      refine st_invV (pc := 113) (ci := 12) (vs := [.int l6, .int l1]) (rest := []) (st2 := [.int q3.1]) dX12_flows_113 okX12_isFrom (by decide) hkq3 hbq3 wd_1411 wd_1413 wp_55 pdX12_isFrom rfl rfl rfl rfl (Nat.le_trans (by decide) hd) (Nat.le_of_ble_eq_true rfl) (T_X12_isFrom (Nat.le_refl _) e3) rfl ?_
      refine bd_if_eq (pc := 116) (tgt := 133) hq dX12_flows_116 (by decide) (fun _ hq => ?_) (fun _ hq => ?_)
      ·
        exact T_X12_flows_133 hd ih hq
      ·
        refine st_aload_n (pc := 119) dX12_flows_119 rfl ?_
        refine st_iload (pc := 120) dX12_flows_120 rfl ?_
        refine st_iconst (pc := 122) (v := (0 : Int32)) dX12_flows_122 rfl ?_
        refine st_aload_n (pc := 123) dX12_flows_123 rfl ?_
        refine bd_getr (pc := 124) hq dX12_flows_124 fl_12_25_12 rfl (fun v4 hq => ?_)
        refine st_iload (pc := 127) dX12_flows_127 rfl ?_
        refine bd_iald (pc := 129) hq dX12_flows_129 (fun v5 hq => ?_)
        obtain ⟨⟨hbq6, hkq6⟩, hq⟩ := mh_oi hq
        obtain ⟨q6, e6, hq⟩ := mh_ob hq
        refine st_invV (pc := 130) (ci := 12) (vs := [.int l6, .int (0 : Int32), .int v5]) (rest := []) (st2 := []) dX12_flows_130 okX12_goesIn (by decide) hkq6 hbq6 wd_1419 wd_1421 wp_57 pdX12_goesIn rfl rfl rfl rfl (Nat.le_trans (by decide) hd) (Nat.le_of_ble_eq_true rfl) (T_X12_goesIn (Nat.le_refl _) e6) rfl ?_
        exact T_X12_flows_133 hd ih hq
def D_X12_flows_32 (N : Nat) : Nat → mh_H → Nat → Int32 → Int32 → Int32 → Int32 → Int32 → Int32 → Option mh_H
  | 0, _, _, _, _, _, _, _, _ => none
  | F + 1, h, l0, l1, l2, l3, l4, l5, l6 =>
    (gR h 12 l0 0).bind fun v1 =>
    (aI h v1 (2 : Int32)).bind fun v2 =>
    if v2 ≤ l6 then ((gR h 12 l0 0).bind fun v3 =>
    (uI h v3 (l2 + (3 : Int32)) l4).bind fun h4 =>
    D_X12_flows_98 N N h4 l0 l1 l2 l3 l4 l5 (0 : Int32))
    else (kO h 12 l0 <|
    (D_X12_isFrom N h l0 l6 l1).bind fun q3 =>
    if q3.1 = 0 then (D_X12_flows_79 N (D_X12_flows_32 N F) q3.2 l0 l1 l2 l3 l4 l5 l6)
    else (if l5 < 0 then (D_X12_flows_75 N (D_X12_flows_32 N F) q3.2 l0 l1 l2 l3 l4 l6)
    else ((gR q3.2 12 l0 6).bind fun v4 =>
    (aI q3.2 v4 l6).bind fun v5 =>
    (gR q3.2 12 l0 6).bind fun v6 =>
    (aI q3.2 v6 l5).bind fun v7 =>
    if v5 ≤ v7 then (D_X12_flows_79 N (D_X12_flows_32 N F) q3.2 l0 l1 l2 l3 l4 l5 l6)
    else (D_X12_flows_75 N (D_X12_flows_32 N F) q3.2 l0 l1 l2 l3 l4 l6))))
set_option maxHeartbeats 4000000 in
set_option maxRecDepth 100000 in
theorem T_X12_flows_32 {P : mh_E → Prop} {N d : Nat} (hd : 4 ≤ d) {z : mh_H} : ∀ (F : Nat) (h : mh_H) (l0 : Nat) (l1 : Int32) (l2 : Int32) (l3 : Int32) (l4 : Int32) (l5 : Int32) (l6 : Int32), D_X12_flows_32 N F h l0 l1 l2 l3 l4 l5 l6 = some z → mh_go P d mX12_flows 32 [some (.ref l0), some (.int l1), some (.int l2), some (.int l3), some (.int l4), some (.int l5), some (.int l6), none, none, none, none] [] h none z := by
  intro F
  induction F with
  | zero => intro h l0 l1 l2 l3 l4 l5 l6 hq; rw [D_X12_flows_32] at hq; cases hq
  | succ F ih =>
    intro h l0 l1 l2 l3 l4 l5 l6 hq
    rw [D_X12_flows_32] at hq
    refine st_iload (pc := 32) dX12_flows_32 rfl ?_
    refine st_aload_n (pc := 34) dX12_flows_34 rfl ?_
    refine bd_getr (pc := 35) hq dX12_flows_35 fl_12_9_12 rfl (fun v1 hq => ?_)
    refine st_iconst (pc := 38) (v := (2 : Int32)) dX12_flows_38 rfl ?_
    refine bd_iald (pc := 39) hq dX12_flows_39 (fun v2 hq => ?_)
    refine bd_icmp_ge (pc := 40) (tgt := 85) hq dX12_flows_40 (by decide) (fun _ hq => ?_) (fun _ hq => ?_)
    ·
      refine st_aload_n (pc := 85) dX12_flows_85 rfl ?_
      refine bd_getr (pc := 86) hq dX12_flows_86 fl_12_9_12 rfl (fun v3 hq => ?_)
      refine st_iload_n (pc := 89) dX12_flows_89 rfl ?_
      refine st_iconst (pc := 90) (v := (3 : Int32)) dX12_flows_90 rfl ?_
      refine st_iadd (pc := 91) dX12_flows_91 ?_
      refine st_iload (pc := 92) dX12_flows_92 rfl ?_
      refine bd_iast (pc := 94) hq dX12_flows_94 (fun h4 hq => ?_)
      refine st_iconst (pc := 95) (v := (0 : Int32)) dX12_flows_95 rfl ?_
      refine st_istore (pc := 96) (lv' := [some (.ref l0), some (.int l1), some (.int l2), some (.int l3), some (.int l4), some (.int l5), some (.int (0 : Int32)), none, none, none, none]) dX12_flows_96 rfl (by decide) rfl ?_
      exact T_X12_flows_98 hd N _ _ _ _ _ _ _ _ hq
    ·
      refine st_aload_n (pc := 43) dX12_flows_43 rfl ?_
      refine st_iload (pc := 44) dX12_flows_44 rfl ?_
      refine st_iload_n (pc := 46) dX12_flows_46 rfl ?_
      obtain ⟨⟨hbq3, hkq3⟩, hq⟩ := mh_oi hq
      obtain ⟨q3, e3, hq⟩ := mh_ob hq
      refine st_invV (pc := 47) (ci := 12) (vs := [.int l6, .int l1]) (rest := []) (st2 := [.int q3.1]) dX12_flows_47 okX12_isFrom (by decide) hkq3 hbq3 wd_1411 wd_1413 wp_55 pdX12_isFrom rfl rfl rfl rfl (Nat.le_trans (by decide) hd) (Nat.le_of_ble_eq_true rfl) (T_X12_isFrom (Nat.le_refl _) e3) rfl ?_
      refine bd_if_eq (pc := 50) (tgt := 79) hq dX12_flows_50 (by decide) (fun _ hq => ?_) (fun _ hq => ?_)
      ·
        exact T_X12_flows_79 hd ih hq
      ·
        refine st_iload (pc := 53) dX12_flows_53 rfl ?_
        refine bd_if_lt (pc := 55) (tgt := 75) hq dX12_flows_55 (by decide) (fun _ hq => ?_) (fun _ hq => ?_)
        ·
          refine st_lesS (lv' := [some (.ref l0), some (.int l1), some (.int l2), some (.int l3), some (.int l4), none, some (.int l6), none, none, none, none]) ⟨Or.inr rfl, Or.inr rfl, Or.inr rfl, Or.inr rfl, Or.inr rfl, Or.inl rfl, Or.inr rfl, Or.inr rfl, Or.inr rfl, Or.inr rfl, Or.inr rfl, trivial⟩ ?_
          exact T_X12_flows_75 hd ih hq
        ·
          refine st_aload_n (pc := 58) dX12_flows_58 rfl ?_
          refine bd_getr (pc := 59) hq dX12_flows_59 fl_12_25_12 rfl (fun v4 hq => ?_)
          refine st_iload (pc := 62) dX12_flows_62 rfl ?_
          refine bd_iald (pc := 64) hq dX12_flows_64 (fun v5 hq => ?_)
          refine st_aload_n (pc := 65) dX12_flows_65 rfl ?_
          refine bd_getr (pc := 66) hq dX12_flows_66 fl_12_25_12 rfl (fun v6 hq => ?_)
          refine st_iload (pc := 69) dX12_flows_69 rfl ?_
          refine bd_iald (pc := 71) hq dX12_flows_71 (fun v7 hq => ?_)
          refine bd_icmp_le (pc := 72) (tgt := 79) hq dX12_flows_72 (by decide) (fun _ hq => ?_) (fun _ hq => ?_)
          ·
            exact T_X12_flows_79 hd ih hq
          ·
            refine st_lesS (lv' := [some (.ref l0), some (.int l1), some (.int l2), some (.int l3), some (.int l4), none, some (.int l6), none, none, none, none]) ⟨Or.inr rfl, Or.inr rfl, Or.inr rfl, Or.inr rfl, Or.inr rfl, Or.inl rfl, Or.inr rfl, Or.inr rfl, Or.inr rfl, Or.inr rfl, Or.inr rfl, trivial⟩ ?_
            exact T_X12_flows_75 hd ih hq
def D_X12_flows (N : Nat) (h : mh_H) (l0 : Nat) (l1 : Int32) : Option mh_H :=
  (D_X12_joint N h l1).bind fun q1 =>
  (gR q1.2 12 l0 0).bind fun v2 =>
  (aI q1.2 v2 (q1.1 + (3 : Int32))).bind fun v3 =>
  if v3 = 0 then (some q1.2)
  else (kO q1.2 12 l0 <|
  (D_X12_parts N q1.2 l0 l1).bind fun q4 =>
  D_X12_flows_32 N N q4.2 l0 l1 q1.1 v3 q4.1 (-1 : Int32) (0 : Int32))
set_option maxHeartbeats 4000000 in
set_option maxRecDepth 100000 in
theorem T_X12_flows {P : mh_E → Prop} {N d : Nat} (hd : 4 ≤ d) {z : mh_H} {h : mh_H} {l0 : Nat} {l1 : Int32} (hq : D_X12_flows N h l0 l1 = some z) : mh_go P d mX12_flows 0 [some (.ref l0), some (.int l1), none, none, none, none, none, none, none, none, none] [] h none z := by
  unfold D_X12_flows at hq
  refine st_iload_n (pc := 0) dX12_flows_0 rfl ?_
  obtain ⟨q1, e1, hq⟩ := mh_ob hq
  refine st_invS (pc := 1) (Y := mX12_joint) (vs := [.int l1]) (rest := []) (st2 := [.int q1.1]) dX12_flows_1 okX12_joint wd_1279 wd_1280 pdX12_joint rfl rfl rfl rfl (Nat.le_trans (by decide) hd) (Nat.le_of_ble_eq_true rfl) (T_X12_joint (Nat.le_refl _) e1) rfl ?_
  refine st_istore_n (pc := 4) (lv' := [some (.ref l0), some (.int l1), some (.int q1.1), none, none, none, none, none, none, none, none]) dX12_flows_4 rfl (by decide) rfl ?_
  refine st_aload_n (pc := 5) dX12_flows_5 rfl ?_
  refine bd_getr (pc := 6) hq dX12_flows_6 fl_12_9_12 rfl (fun v2 hq => ?_)
  refine st_iload_n (pc := 9) dX12_flows_9 rfl ?_
  refine st_iconst (pc := 10) (v := (3 : Int32)) dX12_flows_10 rfl ?_
  refine st_iadd (pc := 11) dX12_flows_11 ?_
  refine bd_iald (pc := 12) hq dX12_flows_12 (fun v3 hq => ?_)
  refine st_istore_n (pc := 13) (lv' := [some (.ref l0), some (.int l1), some (.int q1.1), some (.int v3), none, none, none, none, none, none, none]) dX12_flows_13 rfl (by decide) rfl ?_
  refine st_iload_n (pc := 14) dX12_flows_14 rfl ?_
  refine bd_if_ne (pc := 15) (tgt := 19) hq dX12_flows_15 (by decide) (fun _ hq => ?_) (fun _ hq => ?_)
  ·
    exact bd_vret (pc := 18) hq dX12_flows_18 rfl
  ·
    refine st_aload_n (pc := 19) dX12_flows_19 rfl ?_
    refine st_iload_n (pc := 20) dX12_flows_20 rfl ?_
    obtain ⟨⟨hbq4, hkq4⟩, hq⟩ := mh_oi hq
    obtain ⟨q4, e4, hq⟩ := mh_ob hq
    refine st_invV (pc := 21) (ci := 12) (vs := [.int l1]) (rest := []) (st2 := [.int q4.1]) dX12_flows_21 okX12_parts (by decide) hkq4 hbq4 wd_1407 wd_1409 wp_54 pdX12_parts rfl rfl rfl rfl (Nat.le_trans (by decide) hd) (Nat.le_of_ble_eq_true rfl) (T_X12_parts (Nat.le_refl _) e4) rfl ?_
    refine st_istore (pc := 24) (lv' := [some (.ref l0), some (.int l1), some (.int q1.1), some (.int v3), some (.int q4.1), none, none, none, none, none, none]) dX12_flows_24 rfl (by decide) rfl ?_
    refine st_iconst (pc := 26) (v := (-1 : Int32)) dX12_flows_26 rfl ?_
    refine st_istore (pc := 27) (lv' := [some (.ref l0), some (.int l1), some (.int q1.1), some (.int v3), some (.int q4.1), some (.int (-1 : Int32)), none, none, none, none, none]) dX12_flows_27 rfl (by decide) rfl ?_
    refine st_iconst (pc := 29) (v := (0 : Int32)) dX12_flows_29 rfl ?_
    refine st_istore (pc := 30) (lv' := [some (.ref l0), some (.int l1), some (.int q1.1), some (.int v3), some (.int q4.1), some (.int (-1 : Int32)), some (.int (0 : Int32)), none, none, none, none]) dX12_flows_30 rfl (by decide) rfl ?_
    exact T_X12_flows_32 hd N _ _ _ _ _ _ _ _ hq
-- HoleWaterModel.two(III)I
theorem dX12_two_0 : decode cX12_two 0 = .ok (.iload_n 0, 1) := by decide +kernel
theorem dX12_two_1 : decode cX12_two 1 = .ok (.tableswitch 85 0 5 #[39, 43, 47, 51, 63, 74], 39) := by decide +kernel
theorem dX12_two_40 : decode cX12_two 40 = .ok (.iload_n 1, 1) := by decide +kernel
theorem dX12_two_41 : decode cX12_two 41 = .ok (.iload_n 2, 1) := by decide +kernel
theorem dX12_two_42 : decode cX12_two 42 = .ok (.iadd, 1) := by decide +kernel
theorem dX12_two_43 : decode cX12_two 43 = .ok (.ireturn, 1) := by decide +kernel
theorem dX12_two_44 : decode cX12_two 44 = .ok (.iload_n 1, 1) := by decide +kernel
theorem dX12_two_45 : decode cX12_two 45 = .ok (.iload_n 2, 1) := by decide +kernel
theorem dX12_two_46 : decode cX12_two 46 = .ok (.isub, 1) := by decide +kernel
theorem dX12_two_47 : decode cX12_two 47 = .ok (.ireturn, 1) := by decide +kernel
theorem dX12_two_48 : decode cX12_two 48 = .ok (.iload_n 1, 1) := by decide +kernel
theorem dX12_two_49 : decode cX12_two 49 = .ok (.iload_n 2, 1) := by decide +kernel
theorem dX12_two_50 : decode cX12_two 50 = .ok (.imul, 1) := by decide +kernel
theorem dX12_two_51 : decode cX12_two 51 = .ok (.ireturn, 1) := by decide +kernel
theorem dX12_two_52 : decode cX12_two 52 = .ok (.iload_n 2, 1) := by decide +kernel
theorem dX12_two_53 : decode cX12_two 53 = .ok (.ifCond .ne 7, 3) := by decide +kernel
theorem dX12_two_56 : decode cX12_two 56 = .ok (.iconst 0, 1) := by decide +kernel
theorem dX12_two_57 : decode cX12_two 57 = .ok (.goto 6, 3) := by decide +kernel
theorem dX12_two_63 : decode cX12_two 63 = .ok (.ireturn, 1) := by decide +kernel
theorem dX12_two_60 : decode cX12_two 60 = .ok (.iload_n 1, 1) := by decide +kernel
theorem dX12_two_61 : decode cX12_two 61 = .ok (.iload_n 2, 1) := by decide +kernel
theorem dX12_two_62 : decode cX12_two 62 = .ok (.idiv, 1) := by decide +kernel
theorem dX12_two_64 : decode cX12_two 64 = .ok (.iload_n 1, 1) := by decide +kernel
theorem dX12_two_65 : decode cX12_two 65 = .ok (.iload_n 2, 1) := by decide +kernel
theorem dX12_two_66 : decode cX12_two 66 = .ok (.if_icmp .ge 7, 3) := by decide +kernel
theorem dX12_two_73 : decode cX12_two 73 = .ok (.iconst 0, 1) := by decide +kernel
theorem dX12_two_74 : decode cX12_two 74 = .ok (.ireturn, 1) := by decide +kernel
theorem dX12_two_69 : decode cX12_two 69 = .ok (.iconst 1, 1) := by decide +kernel
theorem dX12_two_70 : decode cX12_two 70 = .ok (.goto 4, 3) := by decide +kernel
theorem dX12_two_75 : decode cX12_two 75 = .ok (.iload_n 1, 1) := by decide +kernel
theorem dX12_two_76 : decode cX12_two 76 = .ok (.iload_n 2, 1) := by decide +kernel
theorem dX12_two_77 : decode cX12_two 77 = .ok (.if_icmp .ne 7, 3) := by decide +kernel
theorem dX12_two_80 : decode cX12_two 80 = .ok (.iconst 1, 1) := by decide +kernel
theorem dX12_two_81 : decode cX12_two 81 = .ok (.goto 4, 3) := by decide +kernel
theorem dX12_two_85 : decode cX12_two 85 = .ok (.ireturn, 1) := by decide +kernel
theorem dX12_two_84 : decode cX12_two 84 = .ok (.iconst 0, 1) := by decide +kernel
theorem dX12_two_86 : decode cX12_two 86 = .ok (.iload_n 1, 1) := by decide +kernel
theorem dX12_two_87 : decode cX12_two 87 = .ok (.iload_n 2, 1) := by decide +kernel
theorem dX12_two_88 : decode cX12_two 88 = .ok (.if_icmp .le 7, 3) := by decide +kernel
theorem dX12_two_95 : decode cX12_two 95 = .ok (.iconst 0, 1) := by decide +kernel
theorem dX12_two_96 : decode cX12_two 96 = .ok (.ireturn, 1) := by decide +kernel
theorem dX12_two_91 : decode cX12_two 91 = .ok (.iconst 1, 1) := by decide +kernel
theorem dX12_two_92 : decode cX12_two 92 = .ok (.goto 4, 3) := by decide +kernel
def D_X12_two (N : Nat) (h : mh_H) (l0 : Int32) (l1 : Int32) (l2 : Int32) : Option (Int32 × mh_H) :=
  if l0 = 0 then (some (l1 + l2, h))
  else if l0 = 1 then (some (l1 - l2, h))
  else if l0 = 2 then (some (l1 * l2, h))
  else if l0 = 3 then (if l2 = 0 then (some ((0 : Int32), h))
  else (dN l2 <|
  some (l1 / l2, h)))
  else if l0 = 4 then (if l2 ≤ l1 then (some ((0 : Int32), h))
  else (some ((1 : Int32), h)))
  else if l0 = 5 then (if l1 = l2 then (some ((1 : Int32), h))
  else (some ((0 : Int32), h)))
  else (if l1 ≤ l2 then (some ((0 : Int32), h))
  else (some ((1 : Int32), h)))
set_option maxHeartbeats 4000000 in
set_option maxRecDepth 100000 in
theorem T_X12_two {P : mh_E → Prop} {N d : Nat} (hd : 1 ≤ d) {z : (Int32 × mh_H)} {h : mh_H} {l0 : Int32} {l1 : Int32} {l2 : Int32} (hq : D_X12_two N h l0 l1 l2 = some z) : mh_go P d mX12_two 0 [some (.int l0), some (.int l1), some (.int l2)] [] h (some (.int z.1)) z.2 := by
  unfold D_X12_two at hq
  refine st_iload_n (pc := 0) dX12_two_0 rfl ?_
  by_cases c0 : l0 = 0
  ·
    rw [if_pos c0] at hq
    refine st_tin (pc := 1) (tgt := 40) dX12_two_1 (by rw [c0]; decide) (by rw [c0]; decide) (by rw [c0]; rfl) (by decide) ?_
    refine st_iload_n (pc := 40) dX12_two_40 rfl ?_
    refine st_iload_n (pc := 41) dX12_two_41 rfl ?_
    refine st_iadd (pc := 42) dX12_two_42 ?_
    exact bd_iret (pc := 43) hq dX12_two_43 rfl
  ·
    rw [if_neg c0] at hq
    by_cases c1 : l0 = 1
    ·
      rw [if_pos c1] at hq
      refine st_tin (pc := 1) (tgt := 44) dX12_two_1 (by rw [c1]; decide) (by rw [c1]; decide) (by rw [c1]; rfl) (by decide) ?_
      refine st_iload_n (pc := 44) dX12_two_44 rfl ?_
      refine st_iload_n (pc := 45) dX12_two_45 rfl ?_
      refine st_isub (pc := 46) dX12_two_46 ?_
      exact bd_iret (pc := 47) hq dX12_two_47 rfl
    ·
      rw [if_neg c1] at hq
      by_cases c2 : l0 = 2
      ·
        rw [if_pos c2] at hq
        refine st_tin (pc := 1) (tgt := 48) dX12_two_1 (by rw [c2]; decide) (by rw [c2]; decide) (by rw [c2]; rfl) (by decide) ?_
        refine st_iload_n (pc := 48) dX12_two_48 rfl ?_
        refine st_iload_n (pc := 49) dX12_two_49 rfl ?_
        refine st_imul (pc := 50) dX12_two_50 ?_
        exact bd_iret (pc := 51) hq dX12_two_51 rfl
      ·
        rw [if_neg c2] at hq
        by_cases c3 : l0 = 3
        ·
          rw [if_pos c3] at hq
          refine st_tin (pc := 1) (tgt := 52) dX12_two_1 (by rw [c3]; decide) (by rw [c3]; decide) (by rw [c3]; rfl) (by decide) ?_
          refine st_iload_n (pc := 52) dX12_two_52 rfl ?_
          refine bd_if_ne (pc := 53) (tgt := 60) hq dX12_two_53 (by decide) (fun _ hq => ?_) (fun _ hq => ?_)
          ·
            refine st_iconst (pc := 56) (v := (0 : Int32)) dX12_two_56 rfl ?_
            refine st_goto (pc := 57) (tgt := 63) dX12_two_57 (by decide) ?_
            exact bd_iret (pc := 63) hq dX12_two_63 rfl
          ·
            refine st_iload_n (pc := 60) dX12_two_60 rfl ?_
            refine st_iload_n (pc := 61) dX12_two_61 rfl ?_
            refine bd_idiv (pc := 62) hq dX12_two_62 (fun hq => ?_)
            exact bd_iret (pc := 63) hq dX12_two_63 rfl
        ·
          rw [if_neg c3] at hq
          by_cases c4 : l0 = 4
          ·
            rw [if_pos c4] at hq
            refine st_tin (pc := 1) (tgt := 64) dX12_two_1 (by rw [c4]; decide) (by rw [c4]; decide) (by rw [c4]; rfl) (by decide) ?_
            refine st_iload_n (pc := 64) dX12_two_64 rfl ?_
            refine st_iload_n (pc := 65) dX12_two_65 rfl ?_
            refine bd_icmp_ge (pc := 66) (tgt := 73) hq dX12_two_66 (by decide) (fun _ hq => ?_) (fun _ hq => ?_)
            ·
              refine st_iconst (pc := 73) (v := (0 : Int32)) dX12_two_73 rfl ?_
              exact bd_iret (pc := 74) hq dX12_two_74 rfl
            ·
              refine st_iconst (pc := 69) (v := (1 : Int32)) dX12_two_69 rfl ?_
              refine st_goto (pc := 70) (tgt := 74) dX12_two_70 (by decide) ?_
              exact bd_iret (pc := 74) hq dX12_two_74 rfl
          ·
            rw [if_neg c4] at hq
            by_cases c5 : l0 = 5
            ·
              rw [if_pos c5] at hq
              refine st_tin (pc := 1) (tgt := 75) dX12_two_1 (by rw [c5]; decide) (by rw [c5]; decide) (by rw [c5]; rfl) (by decide) ?_
              refine st_iload_n (pc := 75) dX12_two_75 rfl ?_
              refine st_iload_n (pc := 76) dX12_two_76 rfl ?_
              refine bd_icmp_ne (pc := 77) (tgt := 84) hq dX12_two_77 (by decide) (fun _ hq => ?_) (fun _ hq => ?_)
              ·
                refine st_iconst (pc := 80) (v := (1 : Int32)) dX12_two_80 rfl ?_
                refine st_goto (pc := 81) (tgt := 85) dX12_two_81 (by decide) ?_
                exact bd_iret (pc := 85) hq dX12_two_85 rfl
              ·
                refine st_iconst (pc := 84) (v := (0 : Int32)) dX12_two_84 rfl ?_
                exact bd_iret (pc := 85) hq dX12_two_85 rfl
            ·
              rw [if_neg c5] at hq
              refine st_tout (pc := 1) (tgt := 86) dX12_two_1 (by have e0 := lv_neT c0 (k := 0) (a := 0) (by decide); have e1 := lv_neT c1 (k := 1) (a := 1) (by decide); have e2 := lv_neT c2 (k := 2) (a := 2) (by decide); have e3 := lv_neT c3 (k := 3) (a := 3) (by decide); have e4 := lv_neT c4 (k := 4) (a := 4) (by decide); have e5 := lv_neT c5 (k := 5) (a := 5) (by decide); omega) (by decide) ?_
              refine st_iload_n (pc := 86) dX12_two_86 rfl ?_
              refine st_iload_n (pc := 87) dX12_two_87 rfl ?_
              refine bd_icmp_le (pc := 88) (tgt := 95) hq dX12_two_88 (by decide) (fun _ hq => ?_) (fun _ hq => ?_)
              ·
                refine st_iconst (pc := 95) (v := (0 : Int32)) dX12_two_95 rfl ?_
                exact bd_iret (pc := 96) hq dX12_two_96 rfl
              ·
                refine st_iconst (pc := 91) (v := (1 : Int32)) dX12_two_91 rfl ?_
                refine st_goto (pc := 92) (tgt := 96) dX12_two_92 (by decide) ?_
                exact bd_iret (pc := 96) hq dX12_two_96 rfl
-- HoleWaterModel.goes(III)I
theorem dX12_goes_108 : decode cX12_goes 108 = .ok (.iinc 5 1, 3) := by decide +kernel
theorem dX12_goes_111 : decode cX12_goes 111 = .ok (.goto (-105), 3) := by decide +kernel
theorem dX12_goes_64 : decode cX12_goes 64 = .ok (.iastore, 1) := by decide +kernel
theorem dX12_goes_65 : decode cX12_goes 65 = .ok (.iinc 4 1, 3) := by decide +kernel
theorem dX12_goes_68 : decode cX12_goes 68 = .ok (.goto 40, 3) := by decide +kernel
theorem dX12_goes_6 : decode cX12_goes 6 = .ok (.iload 5, 2) := by decide +kernel
theorem dX12_goes_8 : decode cX12_goes 8 = .ok (.iload_n 3, 1) := by decide +kernel
theorem dX12_goes_9 : decode cX12_goes 9 = .ok (.if_icmp .ge 105, 3) := by decide +kernel
theorem dX12_goes_114 : decode cX12_goes 114 = .ok (.iload 4, 2) := by decide +kernel
theorem dX12_goes_116 : decode cX12_goes 116 = .ok (.ireturn, 1) := by decide +kernel
theorem dX12_goes_12 : decode cX12_goes 12 = .ok (.aload_n 0, 1) := by decide +kernel
theorem dX12_goes_13 : decode cX12_goes 13 = .ok (.getfield 9, 3) := by decide +kernel
theorem dX12_goes_16 : decode cX12_goes 16 = .ok (.iload_n 1, 1) := by decide +kernel
theorem dX12_goes_17 : decode cX12_goes 17 = .ok (.bipush 13, 2) := by decide +kernel
theorem dX12_goes_19 : decode cX12_goes 19 = .ok (.iadd, 1) := by decide +kernel
theorem dX12_goes_20 : decode cX12_goes 20 = .ok (.iload 5, 2) := by decide +kernel
theorem dX12_goes_22 : decode cX12_goes 22 = .ok (.iadd, 1) := by decide +kernel
theorem dX12_goes_23 : decode cX12_goes 23 = .ok (.iaload, 1) := by decide +kernel
theorem dX12_goes_24 : decode cX12_goes 24 = .ok (.istore 6, 2) := by decide +kernel
theorem dX12_goes_26 : decode cX12_goes 26 = .ok (.iload 6, 2) := by decide +kernel
theorem dX12_goes_28 : decode cX12_goes 28 = .ok (.sipush 2000, 3) := by decide +kernel
theorem dX12_goes_31 : decode cX12_goes 31 = .ok (.if_icmp .ge 40, 3) := by decide +kernel
theorem dX12_goes_71 : decode cX12_goes 71 = .ok (.iinc 4 (-1), 3) := by decide +kernel
theorem dX12_goes_74 : decode cX12_goes 74 = .ok (.aload_n 0, 1) := by decide +kernel
theorem dX12_goes_75 : decode cX12_goes 75 = .ok (.getfield 37, 3) := by decide +kernel
theorem dX12_goes_78 : decode cX12_goes 78 = .ok (.iload 4, 2) := by decide +kernel
theorem dX12_goes_80 : decode cX12_goes 80 = .ok (.iconst 1, 1) := by decide +kernel
theorem dX12_goes_81 : decode cX12_goes 81 = .ok (.isub, 1) := by decide +kernel
theorem dX12_goes_82 : decode cX12_goes 82 = .ok (.iload 6, 2) := by decide +kernel
theorem dX12_goes_84 : decode cX12_goes 84 = .ok (.sipush 2000, 3) := by decide +kernel
theorem dX12_goes_87 : decode cX12_goes 87 = .ok (.isub, 1) := by decide +kernel
theorem dX12_goes_88 : decode cX12_goes 88 = .ok (.aload_n 0, 1) := by decide +kernel
theorem dX12_goes_89 : decode cX12_goes 89 = .ok (.getfield 37, 3) := by decide +kernel
theorem dX12_goes_92 : decode cX12_goes 92 = .ok (.iload 4, 2) := by decide +kernel
theorem dX12_goes_94 : decode cX12_goes 94 = .ok (.iconst 1, 1) := by decide +kernel
theorem dX12_goes_95 : decode cX12_goes 95 = .ok (.isub, 1) := by decide +kernel
theorem dX12_goes_96 : decode cX12_goes 96 = .ok (.iaload, 1) := by decide +kernel
theorem dX12_goes_97 : decode cX12_goes 97 = .ok (.aload_n 0, 1) := by decide +kernel
theorem dX12_goes_98 : decode cX12_goes 98 = .ok (.getfield 37, 3) := by decide +kernel
theorem dX12_goes_101 : decode cX12_goes 101 = .ok (.iload 4, 2) := by decide +kernel
theorem dX12_goes_103 : decode cX12_goes 103 = .ok (.iaload, 1) := by decide +kernel
theorem dX12_goes_104 : decode cX12_goes 104 = .ok (.invokestatic 250, 3) := by decide +kernel
theorem dX12_goes_107 : decode cX12_goes 107 = .ok (.iastore, 1) := by decide +kernel
theorem dX12_goes_34 : decode cX12_goes 34 = .ok (.aload_n 0, 1) := by decide +kernel
theorem dX12_goes_35 : decode cX12_goes 35 = .ok (.getfield 37, 3) := by decide +kernel
theorem dX12_goes_38 : decode cX12_goes 38 = .ok (.iload 4, 2) := by decide +kernel
theorem dX12_goes_40 : decode cX12_goes 40 = .ok (.iload 6, 2) := by decide +kernel
theorem dX12_goes_42 : decode cX12_goes 42 = .ok (.sipush 1000, 3) := by decide +kernel
theorem dX12_goes_45 : decode cX12_goes 45 = .ok (.if_icmp .ge 8, 3) := by decide +kernel
theorem dX12_goes_53 : decode cX12_goes 53 = .ok (.aload_n 0, 1) := by decide +kernel
theorem dX12_goes_54 : decode cX12_goes 54 = .ok (.getfield 34, 3) := by decide +kernel
theorem dX12_goes_57 : decode cX12_goes 57 = .ok (.iload 6, 2) := by decide +kernel
theorem dX12_goes_59 : decode cX12_goes 59 = .ok (.sipush 1000, 3) := by decide +kernel
theorem dX12_goes_62 : decode cX12_goes 62 = .ok (.isub, 1) := by decide +kernel
theorem dX12_goes_63 : decode cX12_goes 63 = .ok (.iaload, 1) := by decide +kernel
theorem dX12_goes_48 : decode cX12_goes 48 = .ok (.iload 6, 2) := by decide +kernel
theorem dX12_goes_50 : decode cX12_goes 50 = .ok (.goto 14, 3) := by decide +kernel
theorem dX12_goes_0 : decode cX12_goes 0 = .ok (.iconst 0, 1) := by decide +kernel
theorem dX12_goes_1 : decode cX12_goes 1 = .ok (.istore 4, 2) := by decide +kernel
theorem dX12_goes_3 : decode cX12_goes 3 = .ok (.iload_n 2, 1) := by decide +kernel
theorem dX12_goes_4 : decode cX12_goes 4 = .ok (.istore 5, 2) := by decide +kernel
def D_X12_goes_108 (N : Nat) (k6 : mh_H → Nat → Int32 → Int32 → Int32 → Int32 → Option (Int32 × mh_H)) (h : mh_H) (l0 : Nat) (l1 : Int32) (l3 : Int32) (l4 : Int32) (l5 : Int32) : Option (Int32 × mh_H) :=
  k6 h l0 l1 l3 l4 (l5 + Int32.ofInt (1))
set_option maxHeartbeats 4000000 in
set_option maxRecDepth 100000 in
theorem T_X12_goes_108 {P : mh_E → Prop} {N d : Nat} (hd : 2 ≤ d) {z : (Int32 × mh_H)} {k6 : mh_H → Nat → Int32 → Int32 → Int32 → Int32 → Option (Int32 × mh_H)} (hk6 : ∀ (h : mh_H) (l0 : Nat) (l1 : Int32) (l3 : Int32) (l4 : Int32) (l5 : Int32), k6 h l0 l1 l3 l4 l5 = some z → mh_go P d mX12_goes 6 [some (.ref l0), some (.int l1), none, some (.int l3), some (.int l4), some (.int l5), none] [] h (some (.int z.1)) z.2) {h : mh_H} {l0 : Nat} {l1 : Int32} {l3 : Int32} {l4 : Int32} {l5 : Int32} (hq : D_X12_goes_108 N k6 h l0 l1 l3 l4 l5 = some z) : mh_go P d mX12_goes 108 [some (.ref l0), some (.int l1), none, some (.int l3), some (.int l4), some (.int l5), none] [] h (some (.int z.1)) z.2 := by
  unfold D_X12_goes_108 at hq
  refine st_iinc (pc := 108) (lv' := [some (.ref l0), some (.int l1), none, some (.int l3), some (.int l4), some (.int (l5 + Int32.ofInt (1))), none]) dX12_goes_108 rfl rfl (by decide) rfl ?_
  refine st_goto (pc := 111) (tgt := 6) dX12_goes_111 (by decide) ?_
  exact hk6 _ _ _ _ _ _ hq
def D_X12_goes_64 (N : Nat) (k6 : mh_H → Nat → Int32 → Int32 → Int32 → Int32 → Option (Int32 × mh_H)) (h : mh_H) (l0 : Nat) (l1 : Int32) (l3 : Int32) (l4 : Int32) (l5 : Int32) (s0 : Nat) (s1 : Int32) (s2 : Int32) : Option (Int32 × mh_H) :=
  (uI h s0 s1 s2).bind fun h1 =>
  D_X12_goes_108 N k6 h1 l0 l1 l3 (l4 + Int32.ofInt (1)) l5
set_option maxHeartbeats 4000000 in
set_option maxRecDepth 100000 in
theorem T_X12_goes_64 {P : mh_E → Prop} {N d : Nat} (hd : 2 ≤ d) {z : (Int32 × mh_H)} {k6 : mh_H → Nat → Int32 → Int32 → Int32 → Int32 → Option (Int32 × mh_H)} (hk6 : ∀ (h : mh_H) (l0 : Nat) (l1 : Int32) (l3 : Int32) (l4 : Int32) (l5 : Int32), k6 h l0 l1 l3 l4 l5 = some z → mh_go P d mX12_goes 6 [some (.ref l0), some (.int l1), none, some (.int l3), some (.int l4), some (.int l5), none] [] h (some (.int z.1)) z.2) {h : mh_H} {l0 : Nat} {l1 : Int32} {l3 : Int32} {l4 : Int32} {l5 : Int32} {s0 : Nat} {s1 : Int32} {s2 : Int32} (hq : D_X12_goes_64 N k6 h l0 l1 l3 l4 l5 s0 s1 s2 = some z) : mh_go P d mX12_goes 64 [some (.ref l0), some (.int l1), none, some (.int l3), some (.int l4), some (.int l5), none] [.int s2, .int s1, .ref s0] h (some (.int z.1)) z.2 := by
  unfold D_X12_goes_64 at hq
  refine bd_iast (pc := 64) hq dX12_goes_64 (fun h1 hq => ?_)
  refine st_iinc (pc := 65) (lv' := [some (.ref l0), some (.int l1), none, some (.int l3), some (.int (l4 + Int32.ofInt (1))), some (.int l5), none]) dX12_goes_65 rfl rfl (by decide) rfl ?_
  refine st_goto (pc := 68) (tgt := 108) dX12_goes_68 (by decide) ?_
  exact T_X12_goes_108 hd hk6 hq
def D_X12_goes_6 (N : Nat) : Nat → mh_H → Nat → Int32 → Int32 → Int32 → Int32 → Option (Int32 × mh_H)
  | 0, _, _, _, _, _, _ => none
  | F + 1, h, l0, l1, l3, l4, l5 =>
    if l3 ≤ l5 then (some (l4, h))
    else ((gR h 12 l0 0).bind fun v1 =>
    (aI h v1 ((l1 + (13 : Int32)) + l5)).bind fun v2 =>
    if (2000 : Int32) ≤ v2 then ((gR h 12 l0 16).bind fun v3 =>
    (gR h 12 l0 16).bind fun v4 =>
    (aI h v4 ((l4 + Int32.ofInt (-1)) - (1 : Int32))).bind fun v5 =>
    (gR h 12 l0 16).bind fun v6 =>
    (aI h v6 (l4 + Int32.ofInt (-1))).bind fun v7 =>
    (D_X12_two N h (v2 - (2000 : Int32)) v5 v7).bind fun q8 =>
    (uI q8.2 v3 ((l4 + Int32.ofInt (-1)) - (1 : Int32)) q8.1).bind fun h9 =>
    D_X12_goes_108 N (D_X12_goes_6 N F) h9 l0 l1 l3 (l4 + Int32.ofInt (-1)) l5)
    else ((gR h 12 l0 16).bind fun v3 =>
    if (1000 : Int32) ≤ v2 then ((gR h 12 l0 15).bind fun v4 =>
    (aI h v4 (v2 - (1000 : Int32))).bind fun v5 =>
    D_X12_goes_64 N (D_X12_goes_6 N F) h l0 l1 l3 l4 l5 v3 l4 v5)
    else (D_X12_goes_64 N (D_X12_goes_6 N F) h l0 l1 l3 l4 l5 v3 l4 v2)))
set_option maxHeartbeats 4000000 in
set_option maxRecDepth 100000 in
theorem T_X12_goes_6 {P : mh_E → Prop} {N d : Nat} (hd : 2 ≤ d) {z : (Int32 × mh_H)} : ∀ (F : Nat) (h : mh_H) (l0 : Nat) (l1 : Int32) (l3 : Int32) (l4 : Int32) (l5 : Int32), D_X12_goes_6 N F h l0 l1 l3 l4 l5 = some z → mh_go P d mX12_goes 6 [some (.ref l0), some (.int l1), none, some (.int l3), some (.int l4), some (.int l5), none] [] h (some (.int z.1)) z.2 := by
  intro F
  induction F with
  | zero => intro h l0 l1 l3 l4 l5 hq; rw [D_X12_goes_6] at hq; cases hq
  | succ F ih =>
    intro h l0 l1 l3 l4 l5 hq
    rw [D_X12_goes_6] at hq
    refine st_iload (pc := 6) dX12_goes_6 rfl ?_
    refine st_iload_n (pc := 8) dX12_goes_8 rfl ?_
    refine bd_icmp_ge (pc := 9) (tgt := 114) hq dX12_goes_9 (by decide) (fun _ hq => ?_) (fun _ hq => ?_)
    ·
      refine st_iload (pc := 114) dX12_goes_114 rfl ?_
      exact bd_iret (pc := 116) hq dX12_goes_116 rfl
    ·
      refine st_aload_n (pc := 12) dX12_goes_12 rfl ?_
      refine bd_getr (pc := 13) hq dX12_goes_13 fl_12_9_12 rfl (fun v1 hq => ?_)
      refine st_iload_n (pc := 16) dX12_goes_16 rfl ?_
      refine st_bipush (pc := 17) (v := (13 : Int32)) dX12_goes_17 (by decide) ?_
      refine st_iadd (pc := 19) dX12_goes_19 ?_
      refine st_iload (pc := 20) dX12_goes_20 rfl ?_
      refine st_iadd (pc := 22) dX12_goes_22 ?_
      refine bd_iald (pc := 23) hq dX12_goes_23 (fun v2 hq => ?_)
      refine st_istore (pc := 24) (lv' := [some (.ref l0), some (.int l1), none, some (.int l3), some (.int l4), some (.int l5), some (.int v2)]) dX12_goes_24 rfl (by decide) rfl ?_
      refine st_iload (pc := 26) dX12_goes_26 rfl ?_
      refine st_sipush (pc := 28) (v := (2000 : Int32)) dX12_goes_28 (by decide) ?_
      refine bd_icmp_ge (pc := 31) (tgt := 71) hq dX12_goes_31 (by decide) (fun _ hq => ?_) (fun _ hq => ?_)
      ·
        refine st_iinc (pc := 71) (lv' := [some (.ref l0), some (.int l1), none, some (.int l3), some (.int (l4 + Int32.ofInt (-1))), some (.int l5), some (.int v2)]) dX12_goes_71 rfl rfl (by decide) rfl ?_
        refine st_aload_n (pc := 74) dX12_goes_74 rfl ?_
        refine bd_getr (pc := 75) hq dX12_goes_75 fl_12_37_12 rfl (fun v3 hq => ?_)
        refine st_iload (pc := 78) dX12_goes_78 rfl ?_
        refine st_iconst (pc := 80) (v := (1 : Int32)) dX12_goes_80 rfl ?_
        refine st_isub (pc := 81) dX12_goes_81 ?_
        refine st_iload (pc := 82) dX12_goes_82 rfl ?_
        refine st_sipush (pc := 84) (v := (2000 : Int32)) dX12_goes_84 (by decide) ?_
        refine st_isub (pc := 87) dX12_goes_87 ?_
        refine st_aload_n (pc := 88) dX12_goes_88 rfl ?_
        refine bd_getr (pc := 89) hq dX12_goes_89 fl_12_37_12 rfl (fun v4 hq => ?_)
        refine st_iload (pc := 92) dX12_goes_92 rfl ?_
        refine st_iconst (pc := 94) (v := (1 : Int32)) dX12_goes_94 rfl ?_
        refine st_isub (pc := 95) dX12_goes_95 ?_
        refine bd_iald (pc := 96) hq dX12_goes_96 (fun v5 hq => ?_)
        refine st_aload_n (pc := 97) dX12_goes_97 rfl ?_
        refine bd_getr (pc := 98) hq dX12_goes_98 fl_12_37_12 rfl (fun v6 hq => ?_)
        refine st_iload (pc := 101) dX12_goes_101 rfl ?_
        refine bd_iald (pc := 103) hq dX12_goes_103 (fun v7 hq => ?_)
        obtain ⟨q8, e8, hq⟩ := mh_ob hq
        refine st_invS (pc := 104) (Y := mX12_two) (vs := [.int (v2 - (2000 : Int32)), .int v5, .int v7]) (rest := [.int ((l4 + Int32.ofInt (-1)) - (1 : Int32)), .ref v3]) (st2 := [.int q8.1, .int ((l4 + Int32.ofInt (-1)) - (1 : Int32)), .ref v3]) dX12_goes_104 okX12_two wd_1389 wd_1390 pdX12_two rfl rfl rfl rfl (Nat.le_trans (by decide) hd) (Nat.le_of_ble_eq_true rfl) (T_X12_two (Nat.le_refl _) e8) rfl ?_
        refine bd_iast (pc := 107) hq dX12_goes_107 (fun h9 hq => ?_)
        refine st_lesS (lv' := [some (.ref l0), some (.int l1), none, some (.int l3), some (.int (l4 + Int32.ofInt (-1))), some (.int l5), none]) ⟨Or.inr rfl, Or.inr rfl, Or.inr rfl, Or.inr rfl, Or.inr rfl, Or.inr rfl, Or.inl rfl, trivial⟩ ?_
        exact T_X12_goes_108 hd ih hq
      ·
        refine st_aload_n (pc := 34) dX12_goes_34 rfl ?_
        refine bd_getr (pc := 35) hq dX12_goes_35 fl_12_37_12 rfl (fun v3 hq => ?_)
        refine st_iload (pc := 38) dX12_goes_38 rfl ?_
        refine st_iload (pc := 40) dX12_goes_40 rfl ?_
        refine st_sipush (pc := 42) (v := (1000 : Int32)) dX12_goes_42 (by decide) ?_
        refine bd_icmp_ge (pc := 45) (tgt := 53) hq dX12_goes_45 (by decide) (fun _ hq => ?_) (fun _ hq => ?_)
        ·
          refine st_aload_n (pc := 53) dX12_goes_53 rfl ?_
          refine bd_getr (pc := 54) hq dX12_goes_54 fl_12_34_12 rfl (fun v4 hq => ?_)
          refine st_iload (pc := 57) dX12_goes_57 rfl ?_
          refine st_sipush (pc := 59) (v := (1000 : Int32)) dX12_goes_59 (by decide) ?_
          refine st_isub (pc := 62) dX12_goes_62 ?_
          refine bd_iald (pc := 63) hq dX12_goes_63 (fun v5 hq => ?_)
          refine st_lesS (lv' := [some (.ref l0), some (.int l1), none, some (.int l3), some (.int l4), some (.int l5), none]) ⟨Or.inr rfl, Or.inr rfl, Or.inr rfl, Or.inr rfl, Or.inr rfl, Or.inr rfl, Or.inl rfl, trivial⟩ ?_
          exact T_X12_goes_64 hd ih hq
        ·
          refine st_iload (pc := 48) dX12_goes_48 rfl ?_
          refine st_goto (pc := 50) (tgt := 64) dX12_goes_50 (by decide) ?_
          refine st_lesS (lv' := [some (.ref l0), some (.int l1), none, some (.int l3), some (.int l4), some (.int l5), none]) ⟨Or.inr rfl, Or.inr rfl, Or.inr rfl, Or.inr rfl, Or.inr rfl, Or.inr rfl, Or.inl rfl, trivial⟩ ?_
          exact T_X12_goes_64 hd ih hq
def D_X12_goes (N : Nat) (h : mh_H) (l0 : Nat) (l1 : Int32) (l2 : Int32) (l3 : Int32) : Option (Int32 × mh_H) :=
  D_X12_goes_6 N N h l0 l1 l3 (0 : Int32) l2
set_option maxHeartbeats 4000000 in
set_option maxRecDepth 100000 in
theorem T_X12_goes {P : mh_E → Prop} {N d : Nat} (hd : 2 ≤ d) {z : (Int32 × mh_H)} {h : mh_H} {l0 : Nat} {l1 : Int32} {l2 : Int32} {l3 : Int32} (hq : D_X12_goes N h l0 l1 l2 l3 = some z) : mh_go P d mX12_goes 0 [some (.ref l0), some (.int l1), some (.int l2), some (.int l3), none, none, none] [] h (some (.int z.1)) z.2 := by
  unfold D_X12_goes at hq
  refine st_iconst (pc := 0) (v := (0 : Int32)) dX12_goes_0 rfl ?_
  refine st_istore (pc := 1) (lv' := [some (.ref l0), some (.int l1), some (.int l2), some (.int l3), some (.int (0 : Int32)), none, none]) dX12_goes_1 rfl (by decide) rfl ?_
  refine st_iload_n (pc := 3) dX12_goes_3 rfl ?_
  refine st_istore (pc := 4) (lv' := [some (.ref l0), some (.int l1), some (.int l2), some (.int l3), some (.int (0 : Int32)), some (.int l2), none]) dX12_goes_4 rfl (by decide) rfl ?_
  refine st_lesS (lv' := [some (.ref l0), some (.int l1), none, some (.int l3), some (.int (0 : Int32)), some (.int l2), none]) ⟨Or.inr rfl, Or.inr rfl, Or.inl rfl, Or.inr rfl, Or.inr rfl, Or.inr rfl, Or.inr rfl, trivial⟩ ?_
  exact T_X12_goes_6 hd N _ _ _ _ _ _ hq
-- HoleWaterModel.says(I)I
theorem dX12_says_99 : decode cX12_says 99 = .ok (.istore 8, 2) := by decide +kernel
theorem dX12_says_101 : decode cX12_says 101 = .ok (.iinc 9 1, 3) := by decide +kernel
theorem dX12_says_104 : decode cX12_says 104 = .ok (.goto (-32), 3) := by decide +kernel
theorem dX12_says_98 : decode cX12_says 98 = .ok (.iconst 0, 1) := by decide +kernel
theorem dX12_says_72 : decode cX12_says 72 = .ok (.iload 9, 2) := by decide +kernel
theorem dX12_says_74 : decode cX12_says 74 = .ok (.iload 7, 2) := by decide +kernel
theorem dX12_says_76 : decode cX12_says 76 = .ok (.if_icmp .ge 31, 3) := by decide +kernel
theorem dX12_says_107 : decode cX12_says 107 = .ok (.iload 8, 2) := by decide +kernel
theorem dX12_says_109 : decode cX12_says 109 = .ok (.ifCond .eq 19, 3) := by decide +kernel
theorem dX12_says_128 : decode cX12_says 128 = .ok (.iload 6, 2) := by decide +kernel
theorem dX12_says_130 : decode cX12_says 130 = .ok (.istore_n 3, 1) := by decide +kernel
theorem dX12_says_131 : decode cX12_says 131 = .ok (.iinc 4 1, 3) := by decide +kernel
theorem dX12_says_134 : decode cX12_says 134 = .ok (.goto (-120), 3) := by decide +kernel
theorem dX12_says_112 : decode cX12_says 112 = .ok (.aload_n 0, 1) := by decide +kernel
theorem dX12_says_113 : decode cX12_says 113 = .ok (.iload_n 2, 1) := by decide +kernel
theorem dX12_says_114 : decode cX12_says 114 = .ok (.iload_n 3, 1) := by decide +kernel
theorem dX12_says_115 : decode cX12_says 115 = .ok (.iload 5, 2) := by decide +kernel
theorem dX12_says_117 : decode cX12_says 117 = .ok (.invokevirtual 253, 3) := by decide +kernel
theorem dX12_says_120 : decode cX12_says 120 = .ok (.pop, 1) := by decide +kernel
theorem dX12_says_121 : decode cX12_says 121 = .ok (.aload_n 0, 1) := by decide +kernel
theorem dX12_says_122 : decode cX12_says 122 = .ok (.getfield 37, 3) := by decide +kernel
theorem dX12_says_125 : decode cX12_says 125 = .ok (.iconst 0, 1) := by decide +kernel
theorem dX12_says_126 : decode cX12_says 126 = .ok (.iaload, 1) := by decide +kernel
theorem dX12_says_127 : decode cX12_says 127 = .ok (.ireturn, 1) := by decide +kernel
theorem dX12_says_79 : decode cX12_says 79 = .ok (.iload 8, 2) := by decide +kernel
theorem dX12_says_81 : decode cX12_says 81 = .ok (.ifCond .eq 17, 3) := by decide +kernel
theorem dX12_says_84 : decode cX12_says 84 = .ok (.aload_n 0, 1) := by decide +kernel
theorem dX12_says_85 : decode cX12_says 85 = .ok (.getfield 37, 3) := by decide +kernel
theorem dX12_says_88 : decode cX12_says 88 = .ok (.iload 9, 2) := by decide +kernel
theorem dX12_says_90 : decode cX12_says 90 = .ok (.iaload, 1) := by decide +kernel
theorem dX12_says_91 : decode cX12_says 91 = .ok (.ifCond .eq 7, 3) := by decide +kernel
theorem dX12_says_94 : decode cX12_says 94 = .ok (.iconst 1, 1) := by decide +kernel
theorem dX12_says_95 : decode cX12_says 95 = .ok (.goto 4, 3) := by decide +kernel
theorem dX12_says_14 : decode cX12_says 14 = .ok (.iload 4, 2) := by decide +kernel
theorem dX12_says_16 : decode cX12_says 16 = .ok (.aload_n 0, 1) := by decide +kernel
theorem dX12_says_17 : decode cX12_says 17 = .ok (.getfield 9, 3) := by decide +kernel
theorem dX12_says_20 : decode cX12_says 20 = .ok (.iload_n 2, 1) := by decide +kernel
theorem dX12_says_21 : decode cX12_says 21 = .ok (.iaload, 1) := by decide +kernel
theorem dX12_says_22 : decode cX12_says 22 = .ok (.if_icmp .ge 115, 3) := by decide +kernel
theorem dX12_says_137 : decode cX12_says 137 = .ok (.iconst 0, 1) := by decide +kernel
theorem dX12_says_138 : decode cX12_says 138 = .ok (.ireturn, 1) := by decide +kernel
theorem dX12_says_25 : decode cX12_says 25 = .ok (.aload_n 0, 1) := by decide +kernel
theorem dX12_says_26 : decode cX12_says 26 = .ok (.getfield 9, 3) := by decide +kernel
theorem dX12_says_29 : decode cX12_says 29 = .ok (.iload_n 2, 1) := by decide +kernel
theorem dX12_says_30 : decode cX12_says 30 = .ok (.iconst 1, 1) := by decide +kernel
theorem dX12_says_31 : decode cX12_says 31 = .ok (.iadd, 1) := by decide +kernel
theorem dX12_says_32 : decode cX12_says 32 = .ok (.iconst 2, 1) := by decide +kernel
theorem dX12_says_33 : decode cX12_says 33 = .ok (.iload 4, 2) := by decide +kernel
theorem dX12_says_35 : decode cX12_says 35 = .ok (.imul, 1) := by decide +kernel
theorem dX12_says_36 : decode cX12_says 36 = .ok (.iadd, 1) := by decide +kernel
theorem dX12_says_37 : decode cX12_says 37 = .ok (.iaload, 1) := by decide +kernel
theorem dX12_says_38 : decode cX12_says 38 = .ok (.istore 5, 2) := by decide +kernel
theorem dX12_says_40 : decode cX12_says 40 = .ok (.aload_n 0, 1) := by decide +kernel
theorem dX12_says_41 : decode cX12_says 41 = .ok (.getfield 9, 3) := by decide +kernel
theorem dX12_says_44 : decode cX12_says 44 = .ok (.iload_n 2, 1) := by decide +kernel
theorem dX12_says_45 : decode cX12_says 45 = .ok (.iconst 2, 1) := by decide +kernel
theorem dX12_says_46 : decode cX12_says 46 = .ok (.iadd, 1) := by decide +kernel
theorem dX12_says_47 : decode cX12_says 47 = .ok (.iconst 2, 1) := by decide +kernel
theorem dX12_says_48 : decode cX12_says 48 = .ok (.iload 4, 2) := by decide +kernel
theorem dX12_says_50 : decode cX12_says 50 = .ok (.imul, 1) := by decide +kernel
theorem dX12_says_51 : decode cX12_says 51 = .ok (.iadd, 1) := by decide +kernel
theorem dX12_says_52 : decode cX12_says 52 = .ok (.iaload, 1) := by decide +kernel
theorem dX12_says_53 : decode cX12_says 53 = .ok (.istore 6, 2) := by decide +kernel
theorem dX12_says_55 : decode cX12_says 55 = .ok (.aload_n 0, 1) := by decide +kernel
theorem dX12_says_56 : decode cX12_says 56 = .ok (.iload_n 2, 1) := by decide +kernel
theorem dX12_says_57 : decode cX12_says 57 = .ok (.iload 5, 2) := by decide +kernel
theorem dX12_says_59 : decode cX12_says 59 = .ok (.iload 6, 2) := by decide +kernel
theorem dX12_says_61 : decode cX12_says 61 = .ok (.invokevirtual 253, 3) := by decide +kernel
theorem dX12_says_64 : decode cX12_says 64 = .ok (.istore 7, 2) := by decide +kernel
theorem dX12_says_66 : decode cX12_says 66 = .ok (.iconst 1, 1) := by decide +kernel
theorem dX12_says_67 : decode cX12_says 67 = .ok (.istore 8, 2) := by decide +kernel
theorem dX12_says_69 : decode cX12_says 69 = .ok (.iconst 0, 1) := by decide +kernel
theorem dX12_says_70 : decode cX12_says 70 = .ok (.istore 9, 2) := by decide +kernel
theorem dX12_says_0 : decode cX12_says 0 = .ok (.sipush 7556, 3) := by decide +kernel
theorem dX12_says_3 : decode cX12_says 3 = .ok (.bipush 77, 2) := by decide +kernel
theorem dX12_says_5 : decode cX12_says 5 = .ok (.iload_n 1, 1) := by decide +kernel
theorem dX12_says_6 : decode cX12_says 6 = .ok (.imul, 1) := by decide +kernel
theorem dX12_says_7 : decode cX12_says 7 = .ok (.iadd, 1) := by decide +kernel
theorem dX12_says_8 : decode cX12_says 8 = .ok (.istore_n 2, 1) := by decide +kernel
theorem dX12_says_9 : decode cX12_says 9 = .ok (.iconst 0, 1) := by decide +kernel
theorem dX12_says_10 : decode cX12_says 10 = .ok (.istore_n 3, 1) := by decide +kernel
theorem dX12_says_11 : decode cX12_says 11 = .ok (.iconst 0, 1) := by decide +kernel
theorem dX12_says_12 : decode cX12_says 12 = .ok (.istore 4, 2) := by decide +kernel
def D_X12_says_99 (N : Nat) (k14 : mh_H → Nat → Int32 → Int32 → Int32 → Option (Int32 × mh_H)) (k72 : mh_H → Nat → Int32 → Int32 → Int32 → Int32 → Int32 → Int32 → Int32 → Int32 → Option (Int32 × mh_H)) (h : mh_H) (l0 : Nat) (l2 : Int32) (l3 : Int32) (l4 : Int32) (l5 : Int32) (l6 : Int32) (l7 : Int32) (l9 : Int32) (s0 : Int32) : Option (Int32 × mh_H) :=
  k72 h l0 l2 l3 l4 l5 l6 l7 s0 (l9 + Int32.ofInt (1))
set_option maxHeartbeats 4000000 in
set_option maxRecDepth 100000 in
theorem T_X12_says_99 {P : mh_E → Prop} {N d : Nat} (hd : 3 ≤ d) {z : (Int32 × mh_H)} {k14 : mh_H → Nat → Int32 → Int32 → Int32 → Option (Int32 × mh_H)} (hk14 : ∀ (h : mh_H) (l0 : Nat) (l2 : Int32) (l3 : Int32) (l4 : Int32), k14 h l0 l2 l3 l4 = some z → mh_go P d mX12_says 14 [some (.ref l0), none, some (.int l2), some (.int l3), some (.int l4), none, none, none, none, none] [] h (some (.int z.1)) z.2) {k72 : mh_H → Nat → Int32 → Int32 → Int32 → Int32 → Int32 → Int32 → Int32 → Int32 → Option (Int32 × mh_H)} (hk72 : ∀ (h : mh_H) (l0 : Nat) (l2 : Int32) (l3 : Int32) (l4 : Int32) (l5 : Int32) (l6 : Int32) (l7 : Int32) (l8 : Int32) (l9 : Int32), k72 h l0 l2 l3 l4 l5 l6 l7 l8 l9 = some z → mh_go P d mX12_says 72 [some (.ref l0), none, some (.int l2), some (.int l3), some (.int l4), some (.int l5), some (.int l6), some (.int l7), some (.int l8), some (.int l9)] [] h (some (.int z.1)) z.2) {h : mh_H} {l0 : Nat} {l2 : Int32} {l3 : Int32} {l4 : Int32} {l5 : Int32} {l6 : Int32} {l7 : Int32} {l9 : Int32} {s0 : Int32} (hq : D_X12_says_99 N k14 k72 h l0 l2 l3 l4 l5 l6 l7 l9 s0 = some z) : mh_go P d mX12_says 99 [some (.ref l0), none, some (.int l2), some (.int l3), some (.int l4), some (.int l5), some (.int l6), some (.int l7), none, some (.int l9)] [.int s0] h (some (.int z.1)) z.2 := by
  unfold D_X12_says_99 at hq
  refine st_istore (pc := 99) (lv' := [some (.ref l0), none, some (.int l2), some (.int l3), some (.int l4), some (.int l5), some (.int l6), some (.int l7), some (.int s0), some (.int l9)]) dX12_says_99 rfl (by decide) rfl ?_
  refine st_iinc (pc := 101) (lv' := [some (.ref l0), none, some (.int l2), some (.int l3), some (.int l4), some (.int l5), some (.int l6), some (.int l7), some (.int s0), some (.int (l9 + Int32.ofInt (1)))]) dX12_says_101 rfl rfl (by decide) rfl ?_
  refine st_goto (pc := 104) (tgt := 72) dX12_says_104 (by decide) ?_
  exact hk72 _ _ _ _ _ _ _ _ _ _ hq
def D_X12_says_98 (N : Nat) (k14 : mh_H → Nat → Int32 → Int32 → Int32 → Option (Int32 × mh_H)) (k72 : mh_H → Nat → Int32 → Int32 → Int32 → Int32 → Int32 → Int32 → Int32 → Int32 → Option (Int32 × mh_H)) (h : mh_H) (l0 : Nat) (l2 : Int32) (l3 : Int32) (l4 : Int32) (l5 : Int32) (l6 : Int32) (l7 : Int32) (l9 : Int32) : Option (Int32 × mh_H) :=
  D_X12_says_99 N k14 k72 h l0 l2 l3 l4 l5 l6 l7 l9 (0 : Int32)
set_option maxHeartbeats 4000000 in
set_option maxRecDepth 100000 in
theorem T_X12_says_98 {P : mh_E → Prop} {N d : Nat} (hd : 3 ≤ d) {z : (Int32 × mh_H)} {k14 : mh_H → Nat → Int32 → Int32 → Int32 → Option (Int32 × mh_H)} (hk14 : ∀ (h : mh_H) (l0 : Nat) (l2 : Int32) (l3 : Int32) (l4 : Int32), k14 h l0 l2 l3 l4 = some z → mh_go P d mX12_says 14 [some (.ref l0), none, some (.int l2), some (.int l3), some (.int l4), none, none, none, none, none] [] h (some (.int z.1)) z.2) {k72 : mh_H → Nat → Int32 → Int32 → Int32 → Int32 → Int32 → Int32 → Int32 → Int32 → Option (Int32 × mh_H)} (hk72 : ∀ (h : mh_H) (l0 : Nat) (l2 : Int32) (l3 : Int32) (l4 : Int32) (l5 : Int32) (l6 : Int32) (l7 : Int32) (l8 : Int32) (l9 : Int32), k72 h l0 l2 l3 l4 l5 l6 l7 l8 l9 = some z → mh_go P d mX12_says 72 [some (.ref l0), none, some (.int l2), some (.int l3), some (.int l4), some (.int l5), some (.int l6), some (.int l7), some (.int l8), some (.int l9)] [] h (some (.int z.1)) z.2) {h : mh_H} {l0 : Nat} {l2 : Int32} {l3 : Int32} {l4 : Int32} {l5 : Int32} {l6 : Int32} {l7 : Int32} {l9 : Int32} (hq : D_X12_says_98 N k14 k72 h l0 l2 l3 l4 l5 l6 l7 l9 = some z) : mh_go P d mX12_says 98 [some (.ref l0), none, some (.int l2), some (.int l3), some (.int l4), some (.int l5), some (.int l6), some (.int l7), none, some (.int l9)] [] h (some (.int z.1)) z.2 := by
  unfold D_X12_says_98 at hq
  refine st_iconst (pc := 98) (v := (0 : Int32)) dX12_says_98 rfl ?_
  exact T_X12_says_99 hd hk14 hk72 hq
def D_X12_says_72 (N : Nat) (k14 : mh_H → Nat → Int32 → Int32 → Int32 → Option (Int32 × mh_H)) : Nat → mh_H → Nat → Int32 → Int32 → Int32 → Int32 → Int32 → Int32 → Int32 → Int32 → Option (Int32 × mh_H)
  | 0, _, _, _, _, _, _, _, _, _, _ => none
  | F + 1, h, l0, l2, l3, l4, l5, l6, l7, l8, l9 =>
    if l7 ≤ l9 then (if l8 = 0 then (k14 h l0 l2 l6 (l4 + Int32.ofInt (1)))
    else (kO h 12 l0 <|
    (D_X12_goes N h l0 l2 l3 l5).bind fun q1 =>
    (gR q1.2 12 l0 16).bind fun v2 =>
    (aI q1.2 v2 (0 : Int32)).bind fun v3 =>
    some (v3, q1.2)))
    else (if l8 = 0 then (D_X12_says_98 N k14 (D_X12_says_72 N k14 F) h l0 l2 l3 l4 l5 l6 l7 l9)
    else ((gR h 12 l0 16).bind fun v1 =>
    (aI h v1 l9).bind fun v2 =>
    if v2 = 0 then (D_X12_says_98 N k14 (D_X12_says_72 N k14 F) h l0 l2 l3 l4 l5 l6 l7 l9)
    else (D_X12_says_99 N k14 (D_X12_says_72 N k14 F) h l0 l2 l3 l4 l5 l6 l7 l9 (1 : Int32))))
set_option maxHeartbeats 4000000 in
set_option maxRecDepth 100000 in
theorem T_X12_says_72 {P : mh_E → Prop} {N d : Nat} (hd : 3 ≤ d) {z : (Int32 × mh_H)} {k14 : mh_H → Nat → Int32 → Int32 → Int32 → Option (Int32 × mh_H)} (hk14 : ∀ (h : mh_H) (l0 : Nat) (l2 : Int32) (l3 : Int32) (l4 : Int32), k14 h l0 l2 l3 l4 = some z → mh_go P d mX12_says 14 [some (.ref l0), none, some (.int l2), some (.int l3), some (.int l4), none, none, none, none, none] [] h (some (.int z.1)) z.2) : ∀ (F : Nat) (h : mh_H) (l0 : Nat) (l2 : Int32) (l3 : Int32) (l4 : Int32) (l5 : Int32) (l6 : Int32) (l7 : Int32) (l8 : Int32) (l9 : Int32), D_X12_says_72 N k14 F h l0 l2 l3 l4 l5 l6 l7 l8 l9 = some z → mh_go P d mX12_says 72 [some (.ref l0), none, some (.int l2), some (.int l3), some (.int l4), some (.int l5), some (.int l6), some (.int l7), some (.int l8), some (.int l9)] [] h (some (.int z.1)) z.2 := by
  intro F
  induction F with
  | zero => intro h l0 l2 l3 l4 l5 l6 l7 l8 l9 hq; rw [D_X12_says_72] at hq; cases hq
  | succ F ih =>
    intro h l0 l2 l3 l4 l5 l6 l7 l8 l9 hq
    rw [D_X12_says_72] at hq
    refine st_iload (pc := 72) dX12_says_72 rfl ?_
    refine st_iload (pc := 74) dX12_says_74 rfl ?_
    refine bd_icmp_ge (pc := 76) (tgt := 107) hq dX12_says_76 (by decide) (fun _ hq => ?_) (fun _ hq => ?_)
    ·
      refine st_iload (pc := 107) dX12_says_107 rfl ?_
      refine bd_if_eq (pc := 109) (tgt := 128) hq dX12_says_109 (by decide) (fun _ hq => ?_) (fun _ hq => ?_)
      ·
        refine st_iload (pc := 128) dX12_says_128 rfl ?_
        refine st_istore_n (pc := 130) (lv' := [some (.ref l0), none, some (.int l2), some (.int l6), some (.int l4), some (.int l5), some (.int l6), some (.int l7), some (.int l8), some (.int l9)]) dX12_says_130 rfl (by decide) rfl ?_
        refine st_iinc (pc := 131) (lv' := [some (.ref l0), none, some (.int l2), some (.int l6), some (.int (l4 + Int32.ofInt (1))), some (.int l5), some (.int l6), some (.int l7), some (.int l8), some (.int l9)]) dX12_says_131 rfl rfl (by decide) rfl ?_
        refine st_goto (pc := 134) (tgt := 14) dX12_says_134 (by decide) ?_
        refine st_lesS (lv' := [some (.ref l0), none, some (.int l2), some (.int l6), some (.int (l4 + Int32.ofInt (1))), none, none, none, none, none]) ⟨Or.inr rfl, Or.inr rfl, Or.inr rfl, Or.inr rfl, Or.inr rfl, Or.inl rfl, Or.inl rfl, Or.inl rfl, Or.inl rfl, Or.inl rfl, trivial⟩ ?_
        exact hk14 _ _ _ _ _ hq
      ·
        refine st_aload_n (pc := 112) dX12_says_112 rfl ?_
        refine st_iload_n (pc := 113) dX12_says_113 rfl ?_
        refine st_iload_n (pc := 114) dX12_says_114 rfl ?_
        refine st_iload (pc := 115) dX12_says_115 rfl ?_
        obtain ⟨⟨hbq1, hkq1⟩, hq⟩ := mh_oi hq
        obtain ⟨q1, e1, hq⟩ := mh_ob hq
        refine st_invV (pc := 117) (ci := 12) (vs := [.int l2, .int l3, .int l5]) (rest := []) (st2 := [.int q1.1]) dX12_says_117 okX12_goes (by decide) hkq1 hbq1 wd_1385 wd_1387 wp_50 pdX12_goes rfl rfl rfl rfl (Nat.le_trans (by decide) hd) (Nat.le_of_ble_eq_true rfl) (T_X12_goes (Nat.le_refl _) e1) rfl ?_
        refine st_pop (pc := 120) dX12_says_120 rfl ?_
        refine st_aload_n (pc := 121) dX12_says_121 rfl ?_
        refine bd_getr (pc := 122) hq dX12_says_122 fl_12_37_12 rfl (fun v2 hq => ?_)
        refine st_iconst (pc := 125) (v := (0 : Int32)) dX12_says_125 rfl ?_
        refine bd_iald (pc := 126) hq dX12_says_126 (fun v3 hq => ?_)
        exact bd_iret (pc := 127) hq dX12_says_127 rfl
    ·
      refine st_iload (pc := 79) dX12_says_79 rfl ?_
      refine bd_if_eq (pc := 81) (tgt := 98) hq dX12_says_81 (by decide) (fun _ hq => ?_) (fun _ hq => ?_)
      ·
        refine st_lesS (lv' := [some (.ref l0), none, some (.int l2), some (.int l3), some (.int l4), some (.int l5), some (.int l6), some (.int l7), none, some (.int l9)]) ⟨Or.inr rfl, Or.inr rfl, Or.inr rfl, Or.inr rfl, Or.inr rfl, Or.inr rfl, Or.inr rfl, Or.inr rfl, Or.inl rfl, Or.inr rfl, trivial⟩ ?_
        exact T_X12_says_98 hd hk14 ih hq
      ·
        refine st_aload_n (pc := 84) dX12_says_84 rfl ?_
        refine bd_getr (pc := 85) hq dX12_says_85 fl_12_37_12 rfl (fun v1 hq => ?_)
        refine st_iload (pc := 88) dX12_says_88 rfl ?_
        refine bd_iald (pc := 90) hq dX12_says_90 (fun v2 hq => ?_)
        refine bd_if_eq (pc := 91) (tgt := 98) hq dX12_says_91 (by decide) (fun _ hq => ?_) (fun _ hq => ?_)
        ·
          refine st_lesS (lv' := [some (.ref l0), none, some (.int l2), some (.int l3), some (.int l4), some (.int l5), some (.int l6), some (.int l7), none, some (.int l9)]) ⟨Or.inr rfl, Or.inr rfl, Or.inr rfl, Or.inr rfl, Or.inr rfl, Or.inr rfl, Or.inr rfl, Or.inr rfl, Or.inl rfl, Or.inr rfl, trivial⟩ ?_
          exact T_X12_says_98 hd hk14 ih hq
        ·
          refine st_iconst (pc := 94) (v := (1 : Int32)) dX12_says_94 rfl ?_
          refine st_goto (pc := 95) (tgt := 99) dX12_says_95 (by decide) ?_
          refine st_lesS (lv' := [some (.ref l0), none, some (.int l2), some (.int l3), some (.int l4), some (.int l5), some (.int l6), some (.int l7), none, some (.int l9)]) ⟨Or.inr rfl, Or.inr rfl, Or.inr rfl, Or.inr rfl, Or.inr rfl, Or.inr rfl, Or.inr rfl, Or.inr rfl, Or.inl rfl, Or.inr rfl, trivial⟩ ?_
          exact T_X12_says_99 hd hk14 ih hq
def D_X12_says_14 (N : Nat) : Nat → mh_H → Nat → Int32 → Int32 → Int32 → Option (Int32 × mh_H)
  | 0, _, _, _, _, _ => none
  | F + 1, h, l0, l2, l3, l4 =>
    (gR h 12 l0 0).bind fun v1 =>
    (aI h v1 l2).bind fun v2 =>
    if v2 ≤ l4 then (some ((0 : Int32), h))
    else ((gR h 12 l0 0).bind fun v3 =>
    (aI h v3 ((l2 + (1 : Int32)) + ((2 : Int32) * l4))).bind fun v4 =>
    (gR h 12 l0 0).bind fun v5 =>
    (aI h v5 ((l2 + (2 : Int32)) + ((2 : Int32) * l4))).bind fun v6 =>
    kO h 12 l0 <|
    (D_X12_goes N h l0 l2 v4 v6).bind fun q7 =>
    D_X12_says_72 N (D_X12_says_14 N F) N q7.2 l0 l2 l3 l4 v4 v6 q7.1 (1 : Int32) (0 : Int32))
set_option maxHeartbeats 4000000 in
set_option maxRecDepth 100000 in
theorem T_X12_says_14 {P : mh_E → Prop} {N d : Nat} (hd : 3 ≤ d) {z : (Int32 × mh_H)} : ∀ (F : Nat) (h : mh_H) (l0 : Nat) (l2 : Int32) (l3 : Int32) (l4 : Int32), D_X12_says_14 N F h l0 l2 l3 l4 = some z → mh_go P d mX12_says 14 [some (.ref l0), none, some (.int l2), some (.int l3), some (.int l4), none, none, none, none, none] [] h (some (.int z.1)) z.2 := by
  intro F
  induction F with
  | zero => intro h l0 l2 l3 l4 hq; rw [D_X12_says_14] at hq; cases hq
  | succ F ih =>
    intro h l0 l2 l3 l4 hq
    rw [D_X12_says_14] at hq
    refine st_iload (pc := 14) dX12_says_14 rfl ?_
    refine st_aload_n (pc := 16) dX12_says_16 rfl ?_
    refine bd_getr (pc := 17) hq dX12_says_17 fl_12_9_12 rfl (fun v1 hq => ?_)
    refine st_iload_n (pc := 20) dX12_says_20 rfl ?_
    refine bd_iald (pc := 21) hq dX12_says_21 (fun v2 hq => ?_)
    refine bd_icmp_ge (pc := 22) (tgt := 137) hq dX12_says_22 (by decide) (fun _ hq => ?_) (fun _ hq => ?_)
    ·
      refine st_iconst (pc := 137) (v := (0 : Int32)) dX12_says_137 rfl ?_
      exact bd_iret (pc := 138) hq dX12_says_138 rfl
    ·
      refine st_aload_n (pc := 25) dX12_says_25 rfl ?_
      refine bd_getr (pc := 26) hq dX12_says_26 fl_12_9_12 rfl (fun v3 hq => ?_)
      refine st_iload_n (pc := 29) dX12_says_29 rfl ?_
      refine st_iconst (pc := 30) (v := (1 : Int32)) dX12_says_30 rfl ?_
      refine st_iadd (pc := 31) dX12_says_31 ?_
      refine st_iconst (pc := 32) (v := (2 : Int32)) dX12_says_32 rfl ?_
      refine st_iload (pc := 33) dX12_says_33 rfl ?_
      refine st_imul (pc := 35) dX12_says_35 ?_
      refine st_iadd (pc := 36) dX12_says_36 ?_
      refine bd_iald (pc := 37) hq dX12_says_37 (fun v4 hq => ?_)
      refine st_istore (pc := 38) (lv' := [some (.ref l0), none, some (.int l2), some (.int l3), some (.int l4), some (.int v4), none, none, none, none]) dX12_says_38 rfl (by decide) rfl ?_
      refine st_aload_n (pc := 40) dX12_says_40 rfl ?_
      refine bd_getr (pc := 41) hq dX12_says_41 fl_12_9_12 rfl (fun v5 hq => ?_)
      refine st_iload_n (pc := 44) dX12_says_44 rfl ?_
      refine st_iconst (pc := 45) (v := (2 : Int32)) dX12_says_45 rfl ?_
      refine st_iadd (pc := 46) dX12_says_46 ?_
      refine st_iconst (pc := 47) (v := (2 : Int32)) dX12_says_47 rfl ?_
      refine st_iload (pc := 48) dX12_says_48 rfl ?_
      refine st_imul (pc := 50) dX12_says_50 ?_
      refine st_iadd (pc := 51) dX12_says_51 ?_
      refine bd_iald (pc := 52) hq dX12_says_52 (fun v6 hq => ?_)
      refine st_istore (pc := 53) (lv' := [some (.ref l0), none, some (.int l2), some (.int l3), some (.int l4), some (.int v4), some (.int v6), none, none, none]) dX12_says_53 rfl (by decide) rfl ?_
      refine st_aload_n (pc := 55) dX12_says_55 rfl ?_
      refine st_iload_n (pc := 56) dX12_says_56 rfl ?_
      refine st_iload (pc := 57) dX12_says_57 rfl ?_
      refine st_iload (pc := 59) dX12_says_59 rfl ?_
      obtain ⟨⟨hbq7, hkq7⟩, hq⟩ := mh_oi hq
      obtain ⟨q7, e7, hq⟩ := mh_ob hq
      refine st_invV (pc := 61) (ci := 12) (vs := [.int l2, .int v4, .int v6]) (rest := []) (st2 := [.int q7.1]) dX12_says_61 okX12_goes (by decide) hkq7 hbq7 wd_1385 wd_1387 wp_50 pdX12_goes rfl rfl rfl rfl (Nat.le_trans (by decide) hd) (Nat.le_of_ble_eq_true rfl) (T_X12_goes (Nat.le_refl _) e7) rfl ?_
      refine st_istore (pc := 64) (lv' := [some (.ref l0), none, some (.int l2), some (.int l3), some (.int l4), some (.int v4), some (.int v6), some (.int q7.1), none, none]) dX12_says_64 rfl (by decide) rfl ?_
      refine st_iconst (pc := 66) (v := (1 : Int32)) dX12_says_66 rfl ?_
      refine st_istore (pc := 67) (lv' := [some (.ref l0), none, some (.int l2), some (.int l3), some (.int l4), some (.int v4), some (.int v6), some (.int q7.1), some (.int (1 : Int32)), none]) dX12_says_67 rfl (by decide) rfl ?_
      refine st_iconst (pc := 69) (v := (0 : Int32)) dX12_says_69 rfl ?_
      refine st_istore (pc := 70) (lv' := [some (.ref l0), none, some (.int l2), some (.int l3), some (.int l4), some (.int v4), some (.int v6), some (.int q7.1), some (.int (1 : Int32)), some (.int (0 : Int32))]) dX12_says_70 rfl (by decide) rfl ?_
      exact T_X12_says_72 hd ih N _ _ _ _ _ _ _ _ _ _ hq
def D_X12_says (N : Nat) (h : mh_H) (l0 : Nat) (l1 : Int32) : Option (Int32 × mh_H) :=
  D_X12_says_14 N N h l0 ((7556 : Int32) + ((77 : Int32) * l1)) (0 : Int32) (0 : Int32)
set_option maxHeartbeats 4000000 in
set_option maxRecDepth 100000 in
theorem T_X12_says {P : mh_E → Prop} {N d : Nat} (hd : 3 ≤ d) {z : (Int32 × mh_H)} {h : mh_H} {l0 : Nat} {l1 : Int32} (hq : D_X12_says N h l0 l1 = some z) : mh_go P d mX12_says 0 [some (.ref l0), some (.int l1), none, none, none, none, none, none, none, none] [] h (some (.int z.1)) z.2 := by
  unfold D_X12_says at hq
  refine st_sipush (pc := 0) (v := (7556 : Int32)) dX12_says_0 (by decide) ?_
  refine st_bipush (pc := 3) (v := (77 : Int32)) dX12_says_3 (by decide) ?_
  refine st_iload_n (pc := 5) dX12_says_5 rfl ?_
  refine st_imul (pc := 6) dX12_says_6 ?_
  refine st_iadd (pc := 7) dX12_says_7 ?_
  refine st_istore_n (pc := 8) (lv' := [some (.ref l0), some (.int l1), some (.int ((7556 : Int32) + ((77 : Int32) * l1))), none, none, none, none, none, none, none]) dX12_says_8 rfl (by decide) rfl ?_
  refine st_iconst (pc := 9) (v := (0 : Int32)) dX12_says_9 rfl ?_
  refine st_istore_n (pc := 10) (lv' := [some (.ref l0), some (.int l1), some (.int ((7556 : Int32) + ((77 : Int32) * l1))), some (.int (0 : Int32)), none, none, none, none, none, none]) dX12_says_10 rfl (by decide) rfl ?_
  refine st_iconst (pc := 11) (v := (0 : Int32)) dX12_says_11 rfl ?_
  refine st_istore (pc := 12) (lv' := [some (.ref l0), some (.int l1), some (.int ((7556 : Int32) + ((77 : Int32) * l1))), some (.int (0 : Int32)), some (.int (0 : Int32)), none, none, none, none, none]) dX12_says_12 rfl (by decide) rfl ?_
  refine st_lesS (lv' := [some (.ref l0), none, some (.int ((7556 : Int32) + ((77 : Int32) * l1))), some (.int (0 : Int32)), some (.int (0 : Int32)), none, none, none, none, none]) ⟨Or.inr rfl, Or.inl rfl, Or.inr rfl, Or.inr rfl, Or.inr rfl, Or.inr rfl, Or.inr rfl, Or.inr rfl, Or.inr rfl, Or.inr rfl, trivial⟩ ?_
  exact T_X12_says_14 hd N _ _ _ _ _ hq
-- HoleWaterModel.within(III)I
theorem dX12_within_0 : decode cX12_within 0 = .ok (.iload_n 0, 1) := by decide +kernel
theorem dX12_within_1 : decode cX12_within 1 = .ok (.iload_n 1, 1) := by decide +kernel
theorem dX12_within_2 : decode cX12_within 2 = .ok (.if_icmp .ge 7, 3) := by decide +kernel
theorem dX12_within_9 : decode cX12_within 9 = .ok (.iload_n 0, 1) := by decide +kernel
theorem dX12_within_10 : decode cX12_within 10 = .ok (.iload_n 2, 1) := by decide +kernel
theorem dX12_within_11 : decode cX12_within 11 = .ok (.if_icmp .le 7, 3) := by decide +kernel
theorem dX12_within_18 : decode cX12_within 18 = .ok (.iload_n 0, 1) := by decide +kernel
theorem dX12_within_19 : decode cX12_within 19 = .ok (.ireturn, 1) := by decide +kernel
theorem dX12_within_14 : decode cX12_within 14 = .ok (.iload_n 2, 1) := by decide +kernel
theorem dX12_within_15 : decode cX12_within 15 = .ok (.goto 4, 3) := by decide +kernel
theorem dX12_within_5 : decode cX12_within 5 = .ok (.iload_n 1, 1) := by decide +kernel
theorem dX12_within_6 : decode cX12_within 6 = .ok (.goto 13, 3) := by decide +kernel
def D_X12_within (N : Nat) (h : mh_H) (l0 : Int32) (l1 : Int32) (l2 : Int32) : Option (Int32 × mh_H) :=
  if l1 ≤ l0 then (if l0 ≤ l2 then (some (l0, h))
  else (some (l2, h)))
  else (some (l1, h))
set_option maxHeartbeats 4000000 in
set_option maxRecDepth 100000 in
theorem T_X12_within {P : mh_E → Prop} {N d : Nat} (hd : 1 ≤ d) {z : (Int32 × mh_H)} {h : mh_H} {l0 : Int32} {l1 : Int32} {l2 : Int32} (hq : D_X12_within N h l0 l1 l2 = some z) : mh_go P d mX12_within 0 [some (.int l0), some (.int l1), some (.int l2)] [] h (some (.int z.1)) z.2 := by
  unfold D_X12_within at hq
  refine st_iload_n (pc := 0) dX12_within_0 rfl ?_
  refine st_iload_n (pc := 1) dX12_within_1 rfl ?_
  refine bd_icmp_ge (pc := 2) (tgt := 9) hq dX12_within_2 (by decide) (fun _ hq => ?_) (fun _ hq => ?_)
  ·
    refine st_iload_n (pc := 9) dX12_within_9 rfl ?_
    refine st_iload_n (pc := 10) dX12_within_10 rfl ?_
    refine bd_icmp_le (pc := 11) (tgt := 18) hq dX12_within_11 (by decide) (fun _ hq => ?_) (fun _ hq => ?_)
    ·
      refine st_iload_n (pc := 18) dX12_within_18 rfl ?_
      exact bd_iret (pc := 19) hq dX12_within_19 rfl
    ·
      refine st_iload_n (pc := 14) dX12_within_14 rfl ?_
      refine st_goto (pc := 15) (tgt := 19) dX12_within_15 (by decide) ?_
      exact bd_iret (pc := 19) hq dX12_within_19 rfl
  ·
    refine st_iload_n (pc := 5) dX12_within_5 rfl ?_
    refine st_goto (pc := 6) (tgt := 19) dX12_within_6 (by decide) ?_
    exact bd_iret (pc := 19) hq dX12_within_19 rfl
-- HoleWaterModel.rainOf(I)I
theorem dX12_rainOf_0 : decode cX12_rainOf 0 = .ok (.aload_n 0, 1) := by decide +kernel
theorem dX12_rainOf_1 : decode cX12_rainOf 1 = .ok (.getfield 9, 3) := by decide +kernel
theorem dX12_rainOf_4 : decode cX12_rainOf 4 = .ok (.sipush 7556, 3) := by decide +kernel
theorem dX12_rainOf_7 : decode cX12_rainOf 7 = .ok (.iaload, 1) := by decide +kernel
theorem dX12_rainOf_8 : decode cX12_rainOf 8 = .ok (.ifCond .ne 6, 3) := by decide +kernel
theorem dX12_rainOf_11 : decode cX12_rainOf 11 = .ok (.bipush 10, 2) := by decide +kernel
theorem dX12_rainOf_13 : decode cX12_rainOf 13 = .ok (.ireturn, 1) := by decide +kernel
theorem dX12_rainOf_14 : decode cX12_rainOf 14 = .ok (.aload_n 0, 1) := by decide +kernel
theorem dX12_rainOf_15 : decode cX12_rainOf 15 = .ok (.getfield 34, 3) := by decide +kernel
theorem dX12_rainOf_18 : decode cX12_rainOf 18 = .ok (.iconst 0, 1) := by decide +kernel
theorem dX12_rainOf_19 : decode cX12_rainOf 19 = .ok (.aload_n 0, 1) := by decide +kernel
theorem dX12_rainOf_20 : decode cX12_rainOf 20 = .ok (.getfield 9, 3) := by decide +kernel
theorem dX12_rainOf_23 : decode cX12_rainOf 23 = .ok (.iconst 0, 1) := by decide +kernel
theorem dX12_rainOf_24 : decode cX12_rainOf 24 = .ok (.iaload, 1) := by decide +kernel
theorem dX12_rainOf_25 : decode cX12_rainOf 25 = .ok (.bipush 24, 2) := by decide +kernel
theorem dX12_rainOf_27 : decode cX12_rainOf 27 = .ok (.irem, 1) := by decide +kernel
theorem dX12_rainOf_28 : decode cX12_rainOf 28 = .ok (.iastore, 1) := by decide +kernel
theorem dX12_rainOf_29 : decode cX12_rainOf 29 = .ok (.aload_n 0, 1) := by decide +kernel
theorem dX12_rainOf_30 : decode cX12_rainOf 30 = .ok (.getfield 34, 3) := by decide +kernel
theorem dX12_rainOf_33 : decode cX12_rainOf 33 = .ok (.iconst 1, 1) := by decide +kernel
theorem dX12_rainOf_34 : decode cX12_rainOf 34 = .ok (.aload_n 0, 1) := by decide +kernel
theorem dX12_rainOf_35 : decode cX12_rainOf 35 = .ok (.getfield 9, 3) := by decide +kernel
theorem dX12_rainOf_38 : decode cX12_rainOf 38 = .ok (.iconst 0, 1) := by decide +kernel
theorem dX12_rainOf_39 : decode cX12_rainOf 39 = .ok (.iaload, 1) := by decide +kernel
theorem dX12_rainOf_40 : decode cX12_rainOf 40 = .ok (.bipush 24, 2) := by decide +kernel
theorem dX12_rainOf_42 : decode cX12_rainOf 42 = .ok (.idiv, 1) := by decide +kernel
theorem dX12_rainOf_43 : decode cX12_rainOf 43 = .ok (.iastore, 1) := by decide +kernel
theorem dX12_rainOf_44 : decode cX12_rainOf 44 = .ok (.aload_n 0, 1) := by decide +kernel
theorem dX12_rainOf_45 : decode cX12_rainOf 45 = .ok (.getfield 34, 3) := by decide +kernel
theorem dX12_rainOf_48 : decode cX12_rainOf 48 = .ok (.iconst 2, 1) := by decide +kernel
theorem dX12_rainOf_49 : decode cX12_rainOf 49 = .ok (.iload_n 1, 1) := by decide +kernel
theorem dX12_rainOf_50 : decode cX12_rainOf 50 = .ok (.iastore, 1) := by decide +kernel
theorem dX12_rainOf_51 : decode cX12_rainOf 51 = .ok (.aload_n 0, 1) := by decide +kernel
theorem dX12_rainOf_52 : decode cX12_rainOf 52 = .ok (.getfield 34, 3) := by decide +kernel
theorem dX12_rainOf_55 : decode cX12_rainOf 55 = .ok (.iconst 3, 1) := by decide +kernel
theorem dX12_rainOf_56 : decode cX12_rainOf 56 = .ok (.aload_n 0, 1) := by decide +kernel
theorem dX12_rainOf_57 : decode cX12_rainOf 57 = .ok (.getfield 9, 3) := by decide +kernel
theorem dX12_rainOf_60 : decode cX12_rainOf 60 = .ok (.iconst 5, 1) := by decide +kernel
theorem dX12_rainOf_61 : decode cX12_rainOf 61 = .ok (.iaload, 1) := by decide +kernel
theorem dX12_rainOf_62 : decode cX12_rainOf 62 = .ok (.iastore, 1) := by decide +kernel
theorem dX12_rainOf_63 : decode cX12_rainOf 63 = .ok (.aload_n 0, 1) := by decide +kernel
theorem dX12_rainOf_64 : decode cX12_rainOf 64 = .ok (.iconst 0, 1) := by decide +kernel
theorem dX12_rainOf_65 : decode cX12_rainOf 65 = .ok (.invokevirtual 256, 3) := by decide +kernel
theorem dX12_rainOf_68 : decode cX12_rainOf 68 = .ok (.iconst 0, 1) := by decide +kernel
theorem dX12_rainOf_69 : decode cX12_rainOf 69 = .ok (.sipush 999, 3) := by decide +kernel
theorem dX12_rainOf_72 : decode cX12_rainOf 72 = .ok (.invokestatic 259, 3) := by decide +kernel
theorem dX12_rainOf_75 : decode cX12_rainOf 75 = .ok (.ireturn, 1) := by decide +kernel
def D_X12_rainOf (N : Nat) (h : mh_H) (l0 : Nat) (l1 : Int32) : Option (Int32 × mh_H) :=
  (gR h 12 l0 0).bind fun v1 =>
  (aI h v1 (7556 : Int32)).bind fun v2 =>
  if v2 = 0 then (some ((10 : Int32), h))
  else ((gR h 12 l0 15).bind fun v3 =>
  (gR h 12 l0 0).bind fun v4 =>
  (aI h v4 (0 : Int32)).bind fun v5 =>
  dN (24 : Int32) <|
  (uI h v3 (0 : Int32) (v5 - v5 / (24 : Int32) * (24 : Int32))).bind fun h6 =>
  (gR h6 12 l0 15).bind fun v7 =>
  (gR h6 12 l0 0).bind fun v8 =>
  (aI h6 v8 (0 : Int32)).bind fun v9 =>
  dN (24 : Int32) <|
  (uI h6 v7 (1 : Int32) (v9 / (24 : Int32))).bind fun h10 =>
  (gR h10 12 l0 15).bind fun v11 =>
  (uI h10 v11 (2 : Int32) l1).bind fun h12 =>
  (gR h12 12 l0 15).bind fun v13 =>
  (gR h12 12 l0 0).bind fun v14 =>
  (aI h12 v14 (5 : Int32)).bind fun v15 =>
  (uI h12 v13 (3 : Int32) v15).bind fun h16 =>
  kO h16 12 l0 <|
  (D_X12_says N h16 l0 (0 : Int32)).bind fun q17 =>
  (D_X12_within N q17.2 q17.1 (0 : Int32) (999 : Int32)).bind fun q18 =>
  some (q18.1, q18.2))
set_option maxHeartbeats 4000000 in
set_option maxRecDepth 100000 in
theorem T_X12_rainOf {P : mh_E → Prop} {N d : Nat} (hd : 4 ≤ d) {z : (Int32 × mh_H)} {h : mh_H} {l0 : Nat} {l1 : Int32} (hq : D_X12_rainOf N h l0 l1 = some z) : mh_go P d mX12_rainOf 0 [some (.ref l0), some (.int l1)] [] h (some (.int z.1)) z.2 := by
  unfold D_X12_rainOf at hq
  refine st_aload_n (pc := 0) dX12_rainOf_0 rfl ?_
  refine bd_getr (pc := 1) hq dX12_rainOf_1 fl_12_9_12 rfl (fun v1 hq => ?_)
  refine st_sipush (pc := 4) (v := (7556 : Int32)) dX12_rainOf_4 (by decide) ?_
  refine bd_iald (pc := 7) hq dX12_rainOf_7 (fun v2 hq => ?_)
  refine bd_if_ne (pc := 8) (tgt := 14) hq dX12_rainOf_8 (by decide) (fun _ hq => ?_) (fun _ hq => ?_)
  ·
    refine st_bipush (pc := 11) (v := (10 : Int32)) dX12_rainOf_11 (by decide) ?_
    exact bd_iret (pc := 13) hq dX12_rainOf_13 rfl
  ·
    refine st_aload_n (pc := 14) dX12_rainOf_14 rfl ?_
    refine bd_getr (pc := 15) hq dX12_rainOf_15 fl_12_34_12 rfl (fun v3 hq => ?_)
    refine st_iconst (pc := 18) (v := (0 : Int32)) dX12_rainOf_18 rfl ?_
    refine st_aload_n (pc := 19) dX12_rainOf_19 rfl ?_
    refine bd_getr (pc := 20) hq dX12_rainOf_20 fl_12_9_12 rfl (fun v4 hq => ?_)
    refine st_iconst (pc := 23) (v := (0 : Int32)) dX12_rainOf_23 rfl ?_
    refine bd_iald (pc := 24) hq dX12_rainOf_24 (fun v5 hq => ?_)
    refine st_bipush (pc := 25) (v := (24 : Int32)) dX12_rainOf_25 (by decide) ?_
    refine bd_irem (pc := 27) hq dX12_rainOf_27 (fun hq => ?_)
    refine bd_iast (pc := 28) hq dX12_rainOf_28 (fun h6 hq => ?_)
    refine st_aload_n (pc := 29) dX12_rainOf_29 rfl ?_
    refine bd_getr (pc := 30) hq dX12_rainOf_30 fl_12_34_12 rfl (fun v7 hq => ?_)
    refine st_iconst (pc := 33) (v := (1 : Int32)) dX12_rainOf_33 rfl ?_
    refine st_aload_n (pc := 34) dX12_rainOf_34 rfl ?_
    refine bd_getr (pc := 35) hq dX12_rainOf_35 fl_12_9_12 rfl (fun v8 hq => ?_)
    refine st_iconst (pc := 38) (v := (0 : Int32)) dX12_rainOf_38 rfl ?_
    refine bd_iald (pc := 39) hq dX12_rainOf_39 (fun v9 hq => ?_)
    refine st_bipush (pc := 40) (v := (24 : Int32)) dX12_rainOf_40 (by decide) ?_
    refine bd_idiv (pc := 42) hq dX12_rainOf_42 (fun hq => ?_)
    refine bd_iast (pc := 43) hq dX12_rainOf_43 (fun h10 hq => ?_)
    refine st_aload_n (pc := 44) dX12_rainOf_44 rfl ?_
    refine bd_getr (pc := 45) hq dX12_rainOf_45 fl_12_34_12 rfl (fun v11 hq => ?_)
    refine st_iconst (pc := 48) (v := (2 : Int32)) dX12_rainOf_48 rfl ?_
    refine st_iload_n (pc := 49) dX12_rainOf_49 rfl ?_
    refine bd_iast (pc := 50) hq dX12_rainOf_50 (fun h12 hq => ?_)
    refine st_aload_n (pc := 51) dX12_rainOf_51 rfl ?_
    refine bd_getr (pc := 52) hq dX12_rainOf_52 fl_12_34_12 rfl (fun v13 hq => ?_)
    refine st_iconst (pc := 55) (v := (3 : Int32)) dX12_rainOf_55 rfl ?_
    refine st_aload_n (pc := 56) dX12_rainOf_56 rfl ?_
    refine bd_getr (pc := 57) hq dX12_rainOf_57 fl_12_9_12 rfl (fun v14 hq => ?_)
    refine st_iconst (pc := 60) (v := (5 : Int32)) dX12_rainOf_60 rfl ?_
    refine bd_iald (pc := 61) hq dX12_rainOf_61 (fun v15 hq => ?_)
    refine bd_iast (pc := 62) hq dX12_rainOf_62 (fun h16 hq => ?_)
    refine st_aload_n (pc := 63) dX12_rainOf_63 rfl ?_
    refine st_iconst (pc := 64) (v := (0 : Int32)) dX12_rainOf_64 rfl ?_
    obtain ⟨⟨hbq17, hkq17⟩, hq⟩ := mh_oi hq
    obtain ⟨q17, e17, hq⟩ := mh_ob hq
    refine st_invV (pc := 65) (ci := 12) (vs := [.int (0 : Int32)]) (rest := []) (st2 := [.int q17.1]) dX12_rainOf_65 okX12_says (by decide) hkq17 hbq17 wd_1381 wd_1383 wp_49 pdX12_says rfl rfl rfl rfl (Nat.le_trans (by decide) hd) (Nat.le_of_ble_eq_true rfl) (T_X12_says (Nat.le_refl _) e17) rfl ?_
    refine st_iconst (pc := 68) (v := (0 : Int32)) dX12_rainOf_68 rfl ?_
    refine st_sipush (pc := 69) (v := (999 : Int32)) dX12_rainOf_69 (by decide) ?_
    obtain ⟨q18, e18, hq⟩ := mh_ob hq
    refine st_invS (pc := 72) (Y := mX12_within) (vs := [.int q17.1, .int (0 : Int32), .int (999 : Int32)]) (rest := []) (st2 := [.int q18.1]) dX12_rainOf_72 okX12_within wd_1392 wd_1393 pdX12_within rfl rfl rfl rfl (Nat.le_trans (by decide) hd) (Nat.le_of_ble_eq_true rfl) (T_X12_within (Nat.le_refl _) e18) rfl ?_
    exact bd_iret (pc := 75) hq dX12_rainOf_75 rfl
-- HoleWaterModel.hour()V
theorem dX12_hour_62 : decode cX12_hour 62 = .ok (.iinc 1 1, 3) := by decide +kernel
theorem dX12_hour_65 : decode cX12_hour 65 = .ok (.goto (-40), 3) := by decide +kernel
theorem dX12_hour_93 : decode cX12_hour 93 = .ok (.iinc 1 1, 3) := by decide +kernel
theorem dX12_hour_96 : decode cX12_hour 96 = .ok (.goto (-26), 3) := by decide +kernel
theorem dX12_hour_124 : decode cX12_hour 124 = .ok (.iinc 1 1, 3) := by decide +kernel
theorem dX12_hour_127 : decode cX12_hour 127 = .ok (.goto (-26), 3) := by decide +kernel
theorem dX12_hour_101 : decode cX12_hour 101 = .ok (.iload_n 1, 1) := by decide +kernel
theorem dX12_hour_102 : decode cX12_hour 102 = .ok (.aload_n 0, 1) := by decide +kernel
theorem dX12_hour_103 : decode cX12_hour 103 = .ok (.getfield 9, 3) := by decide +kernel
theorem dX12_hour_106 : decode cX12_hour 106 = .ok (.iconst 1, 1) := by decide +kernel
theorem dX12_hour_107 : decode cX12_hour 107 = .ok (.iaload, 1) := by decide +kernel
theorem dX12_hour_108 : decode cX12_hour 108 = .ok (.if_icmp .ge 22, 3) := by decide +kernel
theorem dX12_hour_130 : decode cX12_hour 130 = .ok (.aload_n 0, 1) := by decide +kernel
theorem dX12_hour_131 : decode cX12_hour 131 = .ok (.getfield 9, 3) := by decide +kernel
theorem dX12_hour_134 : decode cX12_hour 134 = .ok (.iconst 0, 1) := by decide +kernel
theorem dX12_hour_135 : decode cX12_hour 135 = .ok (.dup2, 1) := by decide +kernel
theorem dX12_hour_136 : decode cX12_hour 136 = .ok (.iaload, 1) := by decide +kernel
theorem dX12_hour_137 : decode cX12_hour 137 = .ok (.iconst 1, 1) := by decide +kernel
theorem dX12_hour_138 : decode cX12_hour 138 = .ok (.iadd, 1) := by decide +kernel
theorem dX12_hour_139 : decode cX12_hour 139 = .ok (.iastore, 1) := by decide +kernel
theorem dX12_hour_140 : decode cX12_hour 140 = .ok (.return_, 1) := by decide +kernel
theorem dX12_hour_111 : decode cX12_hour 111 = .ok (.aload_n 0, 1) := by decide +kernel
theorem dX12_hour_112 : decode cX12_hour 112 = .ok (.iload_n 1, 1) := by decide +kernel
theorem dX12_hour_113 : decode cX12_hour 113 = .ok (.invokevirtual 93, 3) := by decide +kernel
theorem dX12_hour_116 : decode cX12_hour 116 = .ok (.ifCond .ne 8, 3) := by decide +kernel
theorem dX12_hour_119 : decode cX12_hour 119 = .ok (.aload_n 0, 1) := by decide +kernel
theorem dX12_hour_120 : decode cX12_hour 120 = .ok (.iload_n 1, 1) := by decide +kernel
theorem dX12_hour_121 : decode cX12_hour 121 = .ok (.invokevirtual 152, 3) := by decide +kernel
theorem dX12_hour_70 : decode cX12_hour 70 = .ok (.iload_n 1, 1) := by decide +kernel
theorem dX12_hour_71 : decode cX12_hour 71 = .ok (.aload_n 0, 1) := by decide +kernel
theorem dX12_hour_72 : decode cX12_hour 72 = .ok (.getfield 9, 3) := by decide +kernel
theorem dX12_hour_75 : decode cX12_hour 75 = .ok (.iconst 1, 1) := by decide +kernel
theorem dX12_hour_76 : decode cX12_hour 76 = .ok (.iaload, 1) := by decide +kernel
theorem dX12_hour_77 : decode cX12_hour 77 = .ok (.if_icmp .ge 22, 3) := by decide +kernel
theorem dX12_hour_99 : decode cX12_hour 99 = .ok (.iconst 0, 1) := by decide +kernel
theorem dX12_hour_100 : decode cX12_hour 100 = .ok (.istore_n 1, 1) := by decide +kernel
theorem dX12_hour_80 : decode cX12_hour 80 = .ok (.aload_n 0, 1) := by decide +kernel
theorem dX12_hour_81 : decode cX12_hour 81 = .ok (.iload_n 1, 1) := by decide +kernel
theorem dX12_hour_82 : decode cX12_hour 82 = .ok (.invokevirtual 93, 3) := by decide +kernel
theorem dX12_hour_85 : decode cX12_hour 85 = .ok (.ifCond .eq 8, 3) := by decide +kernel
theorem dX12_hour_88 : decode cX12_hour 88 = .ok (.aload_n 0, 1) := by decide +kernel
theorem dX12_hour_89 : decode cX12_hour 89 = .ok (.iload_n 1, 1) := by decide +kernel
theorem dX12_hour_90 : decode cX12_hour 90 = .ok (.invokevirtual 149, 3) := by decide +kernel
theorem dX12_hour_25 : decode cX12_hour 25 = .ok (.iload_n 1, 1) := by decide +kernel
theorem dX12_hour_26 : decode cX12_hour 26 = .ok (.aload_n 0, 1) := by decide +kernel
theorem dX12_hour_27 : decode cX12_hour 27 = .ok (.getfield 9, 3) := by decide +kernel
theorem dX12_hour_30 : decode cX12_hour 30 = .ok (.iconst 1, 1) := by decide +kernel
theorem dX12_hour_31 : decode cX12_hour 31 = .ok (.iaload, 1) := by decide +kernel
theorem dX12_hour_32 : decode cX12_hour 32 = .ok (.if_icmp .ge 36, 3) := by decide +kernel
theorem dX12_hour_68 : decode cX12_hour 68 = .ok (.iconst 0, 1) := by decide +kernel
theorem dX12_hour_69 : decode cX12_hour 69 = .ok (.istore_n 1, 1) := by decide +kernel
theorem dX12_hour_35 : decode cX12_hour 35 = .ok (.aload_n 0, 1) := by decide +kernel
theorem dX12_hour_36 : decode cX12_hour 36 = .ok (.iload_n 1, 1) := by decide +kernel
theorem dX12_hour_37 : decode cX12_hour 37 = .ok (.invokevirtual 96, 3) := by decide +kernel
theorem dX12_hour_40 : decode cX12_hour 40 = .ok (.ifCond .eq 22, 3) := by decide +kernel
theorem dX12_hour_43 : decode cX12_hour 43 = .ok (.aload_n 0, 1) := by decide +kernel
theorem dX12_hour_44 : decode cX12_hour 44 = .ok (.getfield 9, 3) := by decide +kernel
theorem dX12_hour_47 : decode cX12_hour 47 = .ok (.iload_n 1, 1) := by decide +kernel
theorem dX12_hour_48 : decode cX12_hour 48 = .ok (.invokestatic 71, 3) := by decide +kernel
theorem dX12_hour_51 : decode cX12_hour 51 = .ok (.iconst 3, 1) := by decide +kernel
theorem dX12_hour_52 : decode cX12_hour 52 = .ok (.iadd, 1) := by decide +kernel
theorem dX12_hour_53 : decode cX12_hour 53 = .ok (.dup2, 1) := by decide +kernel
theorem dX12_hour_54 : decode cX12_hour 54 = .ok (.iaload, 1) := by decide +kernel
theorem dX12_hour_55 : decode cX12_hour 55 = .ok (.aload_n 0, 1) := by decide +kernel
theorem dX12_hour_56 : decode cX12_hour 56 = .ok (.iload_n 1, 1) := by decide +kernel
theorem dX12_hour_57 : decode cX12_hour 57 = .ok (.invokevirtual 146, 3) := by decide +kernel
theorem dX12_hour_60 : decode cX12_hour 60 = .ok (.iadd, 1) := by decide +kernel
theorem dX12_hour_61 : decode cX12_hour 61 = .ok (.iastore, 1) := by decide +kernel
theorem dX12_hour_2 : decode cX12_hour 2 = .ok (.iload_n 1, 1) := by decide +kernel
theorem dX12_hour_3 : decode cX12_hour 3 = .ok (.aload_n 0, 1) := by decide +kernel
theorem dX12_hour_4 : decode cX12_hour 4 = .ok (.getfield 9, 3) := by decide +kernel
theorem dX12_hour_7 : decode cX12_hour 7 = .ok (.iconst 2, 1) := by decide +kernel
theorem dX12_hour_8 : decode cX12_hour 8 = .ok (.iaload, 1) := by decide +kernel
theorem dX12_hour_9 : decode cX12_hour 9 = .ok (.if_icmp .ge 14, 3) := by decide +kernel
theorem dX12_hour_23 : decode cX12_hour 23 = .ok (.iconst 0, 1) := by decide +kernel
theorem dX12_hour_24 : decode cX12_hour 24 = .ok (.istore_n 1, 1) := by decide +kernel
theorem dX12_hour_12 : decode cX12_hour 12 = .ok (.aload_n 0, 1) := by decide +kernel
theorem dX12_hour_13 : decode cX12_hour 13 = .ok (.iload_n 1, 1) := by decide +kernel
theorem dX12_hour_14 : decode cX12_hour 14 = .ok (.invokevirtual 142, 3) := by decide +kernel
theorem dX12_hour_17 : decode cX12_hour 17 = .ok (.iinc 1 1, 3) := by decide +kernel
theorem dX12_hour_20 : decode cX12_hour 20 = .ok (.goto (-18), 3) := by decide +kernel
theorem dX12_hour_0 : decode cX12_hour 0 = .ok (.iconst 0, 1) := by decide +kernel
theorem dX12_hour_1 : decode cX12_hour 1 = .ok (.istore_n 1, 1) := by decide +kernel
def D_X12_hour_62 (N : Nat) (k25 : mh_H → Nat → Int32 → Option mh_H) (h : mh_H) (l0 : Nat) (l1 : Int32) : Option mh_H :=
  k25 h l0 (l1 + Int32.ofInt (1))
set_option maxHeartbeats 4000000 in
set_option maxRecDepth 100000 in
theorem T_X12_hour_62 {P : mh_E → Prop} {N d : Nat} (hd : 5 ≤ d) {z : mh_H} {k25 : mh_H → Nat → Int32 → Option mh_H} (hk25 : ∀ (h : mh_H) (l0 : Nat) (l1 : Int32), k25 h l0 l1 = some z → mh_go P d mX12_hour 25 [some (.ref l0), some (.int l1)] [] h none z) {h : mh_H} {l0 : Nat} {l1 : Int32} (hq : D_X12_hour_62 N k25 h l0 l1 = some z) : mh_go P d mX12_hour 62 [some (.ref l0), some (.int l1)] [] h none z := by
  unfold D_X12_hour_62 at hq
  refine st_iinc (pc := 62) (lv' := [some (.ref l0), some (.int (l1 + Int32.ofInt (1)))]) dX12_hour_62 rfl rfl (by decide) rfl ?_
  refine st_goto (pc := 65) (tgt := 25) dX12_hour_65 (by decide) ?_
  exact hk25 _ _ _ hq
def D_X12_hour_93 (N : Nat) (k70 : mh_H → Nat → Int32 → Option mh_H) (h : mh_H) (l0 : Nat) (l1 : Int32) : Option mh_H :=
  k70 h l0 (l1 + Int32.ofInt (1))
set_option maxHeartbeats 4000000 in
set_option maxRecDepth 100000 in
theorem T_X12_hour_93 {P : mh_E → Prop} {N d : Nat} (hd : 5 ≤ d) {z : mh_H} {k70 : mh_H → Nat → Int32 → Option mh_H} (hk70 : ∀ (h : mh_H) (l0 : Nat) (l1 : Int32), k70 h l0 l1 = some z → mh_go P d mX12_hour 70 [some (.ref l0), some (.int l1)] [] h none z) {h : mh_H} {l0 : Nat} {l1 : Int32} (hq : D_X12_hour_93 N k70 h l0 l1 = some z) : mh_go P d mX12_hour 93 [some (.ref l0), some (.int l1)] [] h none z := by
  unfold D_X12_hour_93 at hq
  refine st_iinc (pc := 93) (lv' := [some (.ref l0), some (.int (l1 + Int32.ofInt (1)))]) dX12_hour_93 rfl rfl (by decide) rfl ?_
  refine st_goto (pc := 96) (tgt := 70) dX12_hour_96 (by decide) ?_
  exact hk70 _ _ _ hq
def D_X12_hour_124 (N : Nat) (k101 : mh_H → Nat → Int32 → Option mh_H) (h : mh_H) (l0 : Nat) (l1 : Int32) : Option mh_H :=
  k101 h l0 (l1 + Int32.ofInt (1))
set_option maxHeartbeats 4000000 in
set_option maxRecDepth 100000 in
theorem T_X12_hour_124 {P : mh_E → Prop} {N d : Nat} (hd : 5 ≤ d) {z : mh_H} {k101 : mh_H → Nat → Int32 → Option mh_H} (hk101 : ∀ (h : mh_H) (l0 : Nat) (l1 : Int32), k101 h l0 l1 = some z → mh_go P d mX12_hour 101 [some (.ref l0), some (.int l1)] [] h none z) {h : mh_H} {l0 : Nat} {l1 : Int32} (hq : D_X12_hour_124 N k101 h l0 l1 = some z) : mh_go P d mX12_hour 124 [some (.ref l0), some (.int l1)] [] h none z := by
  unfold D_X12_hour_124 at hq
  refine st_iinc (pc := 124) (lv' := [some (.ref l0), some (.int (l1 + Int32.ofInt (1)))]) dX12_hour_124 rfl rfl (by decide) rfl ?_
  refine st_goto (pc := 127) (tgt := 101) dX12_hour_127 (by decide) ?_
  exact hk101 _ _ _ hq
def D_X12_hour_101 (N : Nat) : Nat → mh_H → Nat → Int32 → Option mh_H
  | 0, _, _, _ => none
  | F + 1, h, l0, l1 =>
    (gR h 12 l0 0).bind fun v1 =>
    (aI h v1 (1 : Int32)).bind fun v2 =>
    if v2 ≤ l1 then ((gR h 12 l0 0).bind fun v3 =>
    (aI h v3 (0 : Int32)).bind fun v4 =>
    (uI h v3 (0 : Int32) (v4 + (1 : Int32))).bind fun h5 =>
    some h5)
    else (kO h 12 l0 <|
    (D_X12_isEnd N h l0 l1).bind fun q3 =>
    if q3.1 = 0 then (kO q3.2 12 l0 <|
    (D_X12_flows N q3.2 l0 l1).bind fun q4 =>
    D_X12_hour_124 N (D_X12_hour_101 N F) q4 l0 l1)
    else (D_X12_hour_124 N (D_X12_hour_101 N F) q3.2 l0 l1))
set_option maxHeartbeats 4000000 in
set_option maxRecDepth 100000 in
theorem T_X12_hour_101 {P : mh_E → Prop} {N d : Nat} (hd : 5 ≤ d) {z : mh_H} : ∀ (F : Nat) (h : mh_H) (l0 : Nat) (l1 : Int32), D_X12_hour_101 N F h l0 l1 = some z → mh_go P d mX12_hour 101 [some (.ref l0), some (.int l1)] [] h none z := by
  intro F
  induction F with
  | zero => intro h l0 l1 hq; rw [D_X12_hour_101] at hq; cases hq
  | succ F ih =>
    intro h l0 l1 hq
    rw [D_X12_hour_101] at hq
    refine st_iload_n (pc := 101) dX12_hour_101 rfl ?_
    refine st_aload_n (pc := 102) dX12_hour_102 rfl ?_
    refine bd_getr (pc := 103) hq dX12_hour_103 fl_12_9_12 rfl (fun v1 hq => ?_)
    refine st_iconst (pc := 106) (v := (1 : Int32)) dX12_hour_106 rfl ?_
    refine bd_iald (pc := 107) hq dX12_hour_107 (fun v2 hq => ?_)
    refine bd_icmp_ge (pc := 108) (tgt := 130) hq dX12_hour_108 (by decide) (fun _ hq => ?_) (fun _ hq => ?_)
    ·
      refine st_aload_n (pc := 130) dX12_hour_130 rfl ?_
      refine bd_getr (pc := 131) hq dX12_hour_131 fl_12_9_12 rfl (fun v3 hq => ?_)
      refine st_iconst (pc := 134) (v := (0 : Int32)) dX12_hour_134 rfl ?_
      refine st_dup2 (pc := 135) dX12_hour_135 rfl rfl ?_
      refine bd_iald (pc := 136) hq dX12_hour_136 (fun v4 hq => ?_)
      refine st_iconst (pc := 137) (v := (1 : Int32)) dX12_hour_137 rfl ?_
      refine st_iadd (pc := 138) dX12_hour_138 ?_
      refine bd_iast (pc := 139) hq dX12_hour_139 (fun h5 hq => ?_)
      exact bd_vret (pc := 140) hq dX12_hour_140 rfl
    ·
      refine st_aload_n (pc := 111) dX12_hour_111 rfl ?_
      refine st_iload_n (pc := 112) dX12_hour_112 rfl ?_
      obtain ⟨⟨hbq3, hkq3⟩, hq⟩ := mh_oi hq
      obtain ⟨q3, e3, hq⟩ := mh_ob hq
      refine st_invV (pc := 113) (ci := 12) (vs := [.int l1]) (rest := []) (st2 := [.int q3.1]) dX12_hour_113 okX12_isEnd (by decide) hkq3 hbq3 wd_1297 wd_1299 wp_39 pdX12_isEnd rfl rfl rfl rfl (Nat.le_trans (by decide) hd) (Nat.le_of_ble_eq_true rfl) (T_X12_isEnd (Nat.le_refl _) e3) rfl ?_
      refine bd_if_ne (pc := 116) (tgt := 124) hq dX12_hour_116 (by decide) (fun _ hq => ?_) (fun _ hq => ?_)
      ·
        refine st_aload_n (pc := 119) dX12_hour_119 rfl ?_
        refine st_iload_n (pc := 120) dX12_hour_120 rfl ?_
        obtain ⟨⟨hbq4, hkq4⟩, hq⟩ := mh_oi hq
        obtain ⟨q4, e4, hq⟩ := mh_ob hq
        refine st_invV (pc := 121) (ci := 12) (vs := [.int l1]) (rest := []) (st2 := []) dX12_hour_121 okX12_flows (by decide) hkq4 hbq4 wd_1403 wd_1405 wp_53 pdX12_flows rfl rfl rfl rfl (Nat.le_trans (by decide) hd) (Nat.le_of_ble_eq_true rfl) (T_X12_flows (Nat.le_refl _) e4) rfl ?_
        exact T_X12_hour_124 hd ih hq
      ·
        exact T_X12_hour_124 hd ih hq
def D_X12_hour_70 (N : Nat) : Nat → mh_H → Nat → Int32 → Option mh_H
  | 0, _, _, _ => none
  | F + 1, h, l0, l1 =>
    (gR h 12 l0 0).bind fun v1 =>
    (aI h v1 (1 : Int32)).bind fun v2 =>
    if v2 ≤ l1 then (D_X12_hour_101 N N h l0 (0 : Int32))
    else (kO h 12 l0 <|
    (D_X12_isEnd N h l0 l1).bind fun q3 =>
    if q3.1 = 0 then (D_X12_hour_93 N (D_X12_hour_70 N F) q3.2 l0 l1)
    else (kO q3.2 12 l0 <|
    (D_X12_rises N q3.2 l0 l1).bind fun q4 =>
    D_X12_hour_93 N (D_X12_hour_70 N F) q4 l0 l1))
set_option maxHeartbeats 4000000 in
set_option maxRecDepth 100000 in
theorem T_X12_hour_70 {P : mh_E → Prop} {N d : Nat} (hd : 5 ≤ d) {z : mh_H} : ∀ (F : Nat) (h : mh_H) (l0 : Nat) (l1 : Int32), D_X12_hour_70 N F h l0 l1 = some z → mh_go P d mX12_hour 70 [some (.ref l0), some (.int l1)] [] h none z := by
  intro F
  induction F with
  | zero => intro h l0 l1 hq; rw [D_X12_hour_70] at hq; cases hq
  | succ F ih =>
    intro h l0 l1 hq
    rw [D_X12_hour_70] at hq
    refine st_iload_n (pc := 70) dX12_hour_70 rfl ?_
    refine st_aload_n (pc := 71) dX12_hour_71 rfl ?_
    refine bd_getr (pc := 72) hq dX12_hour_72 fl_12_9_12 rfl (fun v1 hq => ?_)
    refine st_iconst (pc := 75) (v := (1 : Int32)) dX12_hour_75 rfl ?_
    refine bd_iald (pc := 76) hq dX12_hour_76 (fun v2 hq => ?_)
    refine bd_icmp_ge (pc := 77) (tgt := 99) hq dX12_hour_77 (by decide) (fun _ hq => ?_) (fun _ hq => ?_)
    ·
      refine st_iconst (pc := 99) (v := (0 : Int32)) dX12_hour_99 rfl ?_
      refine st_istore_n (pc := 100) (lv' := [some (.ref l0), some (.int (0 : Int32))]) dX12_hour_100 rfl (by decide) rfl ?_
      exact T_X12_hour_101 hd N _ _ _ hq
    ·
      refine st_aload_n (pc := 80) dX12_hour_80 rfl ?_
      refine st_iload_n (pc := 81) dX12_hour_81 rfl ?_
      obtain ⟨⟨hbq3, hkq3⟩, hq⟩ := mh_oi hq
      obtain ⟨q3, e3, hq⟩ := mh_ob hq
      refine st_invV (pc := 82) (ci := 12) (vs := [.int l1]) (rest := []) (st2 := [.int q3.1]) dX12_hour_82 okX12_isEnd (by decide) hkq3 hbq3 wd_1297 wd_1299 wp_39 pdX12_isEnd rfl rfl rfl rfl (Nat.le_trans (by decide) hd) (Nat.le_of_ble_eq_true rfl) (T_X12_isEnd (Nat.le_refl _) e3) rfl ?_
      refine bd_if_eq (pc := 85) (tgt := 93) hq dX12_hour_85 (by decide) (fun _ hq => ?_) (fun _ hq => ?_)
      ·
        exact T_X12_hour_93 hd ih hq
      ·
        refine st_aload_n (pc := 88) dX12_hour_88 rfl ?_
        refine st_iload_n (pc := 89) dX12_hour_89 rfl ?_
        obtain ⟨⟨hbq4, hkq4⟩, hq⟩ := mh_oi hq
        obtain ⟨q4, e4, hq⟩ := mh_ob hq
        refine st_invV (pc := 90) (ci := 12) (vs := [.int l1]) (rest := []) (st2 := []) dX12_hour_90 okX12_rises (by decide) hkq4 hbq4 wd_1395 wd_1397 wp_51 pdX12_rises rfl rfl rfl rfl (Nat.le_trans (by decide) hd) (Nat.le_of_ble_eq_true rfl) (T_X12_rises (Nat.le_refl _) e4) rfl ?_
        exact T_X12_hour_93 hd ih hq
def D_X12_hour_25 (N : Nat) : Nat → mh_H → Nat → Int32 → Option mh_H
  | 0, _, _, _ => none
  | F + 1, h, l0, l1 =>
    (gR h 12 l0 0).bind fun v1 =>
    (aI h v1 (1 : Int32)).bind fun v2 =>
    if v2 ≤ l1 then (D_X12_hour_70 N N h l0 (0 : Int32))
    else (kO h 12 l0 <|
    (D_X12_isHole N h l0 l1).bind fun q3 =>
    if q3.1 = 0 then (D_X12_hour_62 N (D_X12_hour_25 N F) q3.2 l0 l1)
    else ((gR q3.2 12 l0 0).bind fun v4 =>
    (D_X12_joint N q3.2 l1).bind fun q5 =>
    (aI q5.2 v4 (q5.1 + (3 : Int32))).bind fun v6 =>
    kO q5.2 12 l0 <|
    (D_X12_rainOf N q5.2 l0 l1).bind fun q7 =>
    (uI q7.2 v4 (q5.1 + (3 : Int32)) (v6 + q7.1)).bind fun h8 =>
    D_X12_hour_62 N (D_X12_hour_25 N F) h8 l0 l1))
set_option maxHeartbeats 4000000 in
set_option maxRecDepth 100000 in
theorem T_X12_hour_25 {P : mh_E → Prop} {N d : Nat} (hd : 5 ≤ d) {z : mh_H} : ∀ (F : Nat) (h : mh_H) (l0 : Nat) (l1 : Int32), D_X12_hour_25 N F h l0 l1 = some z → mh_go P d mX12_hour 25 [some (.ref l0), some (.int l1)] [] h none z := by
  intro F
  induction F with
  | zero => intro h l0 l1 hq; rw [D_X12_hour_25] at hq; cases hq
  | succ F ih =>
    intro h l0 l1 hq
    rw [D_X12_hour_25] at hq
    refine st_iload_n (pc := 25) dX12_hour_25 rfl ?_
    refine st_aload_n (pc := 26) dX12_hour_26 rfl ?_
    refine bd_getr (pc := 27) hq dX12_hour_27 fl_12_9_12 rfl (fun v1 hq => ?_)
    refine st_iconst (pc := 30) (v := (1 : Int32)) dX12_hour_30 rfl ?_
    refine bd_iald (pc := 31) hq dX12_hour_31 (fun v2 hq => ?_)
    refine bd_icmp_ge (pc := 32) (tgt := 68) hq dX12_hour_32 (by decide) (fun _ hq => ?_) (fun _ hq => ?_)
    ·
      refine st_iconst (pc := 68) (v := (0 : Int32)) dX12_hour_68 rfl ?_
      refine st_istore_n (pc := 69) (lv' := [some (.ref l0), some (.int (0 : Int32))]) dX12_hour_69 rfl (by decide) rfl ?_
      exact T_X12_hour_70 hd N _ _ _ hq
    ·
      refine st_aload_n (pc := 35) dX12_hour_35 rfl ?_
      refine st_iload_n (pc := 36) dX12_hour_36 rfl ?_
      obtain ⟨⟨hbq3, hkq3⟩, hq⟩ := mh_oi hq
      obtain ⟨q3, e3, hq⟩ := mh_ob hq
      refine st_invV (pc := 37) (ci := 12) (vs := [.int l1]) (rest := []) (st2 := [.int q3.1]) dX12_hour_37 okX12_isHole (by decide) hkq3 hbq3 wd_1305 wd_1307 wp_41 pdX12_isHole rfl rfl rfl rfl (Nat.le_trans (by decide) hd) (Nat.le_of_ble_eq_true rfl) (T_X12_isHole (Nat.le_refl _) e3) rfl ?_
      refine bd_if_eq (pc := 40) (tgt := 62) hq dX12_hour_40 (by decide) (fun _ hq => ?_) (fun _ hq => ?_)
      ·
        exact T_X12_hour_62 hd ih hq
      ·
        refine st_aload_n (pc := 43) dX12_hour_43 rfl ?_
        refine bd_getr (pc := 44) hq dX12_hour_44 fl_12_9_12 rfl (fun v4 hq => ?_)
        refine st_iload_n (pc := 47) dX12_hour_47 rfl ?_
        obtain ⟨q5, e5, hq⟩ := mh_ob hq
        refine st_invS (pc := 48) (Y := mX12_joint) (vs := [.int l1]) (rest := [.ref v4]) (st2 := [.int q5.1, .ref v4]) dX12_hour_48 okX12_joint wd_1279 wd_1280 pdX12_joint rfl rfl rfl rfl (Nat.le_trans (by decide) hd) (Nat.le_of_ble_eq_true rfl) (T_X12_joint (Nat.le_refl _) e5) rfl ?_
        refine st_iconst (pc := 51) (v := (3 : Int32)) dX12_hour_51 rfl ?_
        refine st_iadd (pc := 52) dX12_hour_52 ?_
        refine st_dup2 (pc := 53) dX12_hour_53 rfl rfl ?_
        refine bd_iald (pc := 54) hq dX12_hour_54 (fun v6 hq => ?_)
        refine st_aload_n (pc := 55) dX12_hour_55 rfl ?_
        refine st_iload_n (pc := 56) dX12_hour_56 rfl ?_
        obtain ⟨⟨hbq7, hkq7⟩, hq⟩ := mh_oi hq
        obtain ⟨q7, e7, hq⟩ := mh_ob hq
        refine st_invV (pc := 57) (ci := 12) (vs := [.int l1]) (rest := [.int v6, .int (q5.1 + (3 : Int32)), .ref v4]) (st2 := [.int q7.1, .int v6, .int (q5.1 + (3 : Int32)), .ref v4]) dX12_hour_57 okX12_rainOf (by decide) hkq7 hbq7 wd_1377 wd_1379 wp_48 pdX12_rainOf rfl rfl rfl rfl (Nat.le_trans (by decide) hd) (Nat.le_of_ble_eq_true rfl) (T_X12_rainOf (Nat.le_refl _) e7) rfl ?_
        refine st_iadd (pc := 60) dX12_hour_60 ?_
        refine bd_iast (pc := 61) hq dX12_hour_61 (fun h8 hq => ?_)
        exact T_X12_hour_62 hd ih hq
def D_X12_hour_2 (N : Nat) : Nat → mh_H → Nat → Int32 → Option mh_H
  | 0, _, _, _ => none
  | F + 1, h, l0, l1 =>
    (gR h 12 l0 0).bind fun v1 =>
    (aI h v1 (2 : Int32)).bind fun v2 =>
    if v2 ≤ l1 then (D_X12_hour_25 N N h l0 (0 : Int32))
    else (kO h 12 l0 <|
    (D_X12_comesOut N h l0 l1).bind fun q3 =>
    (D_X12_hour_2 N F) q3 l0 (l1 + Int32.ofInt (1)))
set_option maxHeartbeats 4000000 in
set_option maxRecDepth 100000 in
theorem T_X12_hour_2 {P : mh_E → Prop} {N d : Nat} (hd : 5 ≤ d) {z : mh_H} : ∀ (F : Nat) (h : mh_H) (l0 : Nat) (l1 : Int32), D_X12_hour_2 N F h l0 l1 = some z → mh_go P d mX12_hour 2 [some (.ref l0), some (.int l1)] [] h none z := by
  intro F
  induction F with
  | zero => intro h l0 l1 hq; rw [D_X12_hour_2] at hq; cases hq
  | succ F ih =>
    intro h l0 l1 hq
    rw [D_X12_hour_2] at hq
    refine st_iload_n (pc := 2) dX12_hour_2 rfl ?_
    refine st_aload_n (pc := 3) dX12_hour_3 rfl ?_
    refine bd_getr (pc := 4) hq dX12_hour_4 fl_12_9_12 rfl (fun v1 hq => ?_)
    refine st_iconst (pc := 7) (v := (2 : Int32)) dX12_hour_7 rfl ?_
    refine bd_iald (pc := 8) hq dX12_hour_8 (fun v2 hq => ?_)
    refine bd_icmp_ge (pc := 9) (tgt := 23) hq dX12_hour_9 (by decide) (fun _ hq => ?_) (fun _ hq => ?_)
    ·
      refine st_iconst (pc := 23) (v := (0 : Int32)) dX12_hour_23 rfl ?_
      refine st_istore_n (pc := 24) (lv' := [some (.ref l0), some (.int (0 : Int32))]) dX12_hour_24 rfl (by decide) rfl ?_
      exact T_X12_hour_25 hd N _ _ _ hq
    ·
      refine st_aload_n (pc := 12) dX12_hour_12 rfl ?_
      refine st_iload_n (pc := 13) dX12_hour_13 rfl ?_
      obtain ⟨⟨hbq3, hkq3⟩, hq⟩ := mh_oi hq
      obtain ⟨q3, e3, hq⟩ := mh_ob hq
      refine st_invV (pc := 14) (ci := 12) (vs := [.int l1]) (rest := []) (st2 := []) dX12_hour_14 okX12_comesOut (by decide) hkq3 hbq3 wd_1370 wd_1372 wp_47 pdX12_comesOut rfl rfl rfl rfl (Nat.le_trans (by decide) hd) (Nat.le_of_ble_eq_true rfl) (T_X12_comesOut (Nat.le_refl _) e3) rfl ?_
      refine st_iinc (pc := 17) (lv' := [some (.ref l0), some (.int (l1 + Int32.ofInt (1)))]) dX12_hour_17 rfl rfl (by decide) rfl ?_
      refine st_goto (pc := 20) (tgt := 2) dX12_hour_20 (by decide) ?_
      exact ih _ _ _ hq
def D_X12_hour (N : Nat) (h : mh_H) (l0 : Nat) : Option mh_H :=
  D_X12_hour_2 N N h l0 (0 : Int32)
set_option maxHeartbeats 4000000 in
set_option maxRecDepth 100000 in
theorem T_X12_hour {P : mh_E → Prop} {N d : Nat} (hd : 5 ≤ d) {z : mh_H} {h : mh_H} {l0 : Nat} (hq : D_X12_hour N h l0 = some z) : mh_go P d mX12_hour 0 [some (.ref l0), none] [] h none z := by
  unfold D_X12_hour at hq
  refine st_iconst (pc := 0) (v := (0 : Int32)) dX12_hour_0 rfl ?_
  refine st_istore_n (pc := 1) (lv' := [some (.ref l0), some (.int (0 : Int32))]) dX12_hour_1 rfl (by decide) rfl ?_
  exact T_X12_hour_2 hd N _ _ _ hq
-- HoleWaterModel.flood(Z)I
theorem dX12_flood_0 : decode cX12_flood 0 = .ok (.aload_n 0, 1) := by decide +kernel
theorem dX12_flood_1 : decode cX12_flood 1 = .ok (.getfield 9, 3) := by decide +kernel
theorem dX12_flood_4 : decode cX12_flood 4 = .ok (.iconst 5, 1) := by decide +kernel
theorem dX12_flood_5 : decode cX12_flood 5 = .ok (.iaload, 1) := by decide +kernel
theorem dX12_flood_6 : decode cX12_flood 6 = .ok (.istore_n 2, 1) := by decide +kernel
theorem dX12_flood_7 : decode cX12_flood 7 = .ok (.aload_n 0, 1) := by decide +kernel
theorem dX12_flood_8 : decode cX12_flood 8 = .ok (.getfield 9, 3) := by decide +kernel
theorem dX12_flood_11 : decode cX12_flood 11 = .ok (.iconst 5, 1) := by decide +kernel
theorem dX12_flood_12 : decode cX12_flood 12 = .ok (.iload_n 1, 1) := by decide +kernel
theorem dX12_flood_13 : decode cX12_flood 13 = .ok (.ifCond .eq 7, 3) := by decide +kernel
theorem dX12_flood_20 : decode cX12_flood 20 = .ok (.iconst 0, 1) := by decide +kernel
theorem dX12_flood_21 : decode cX12_flood 21 = .ok (.iastore, 1) := by decide +kernel
theorem dX12_flood_22 : decode cX12_flood 22 = .ok (.iload_n 2, 1) := by decide +kernel
theorem dX12_flood_23 : decode cX12_flood 23 = .ok (.ireturn, 1) := by decide +kernel
theorem dX12_flood_16 : decode cX12_flood 16 = .ok (.iconst 1, 1) := by decide +kernel
theorem dX12_flood_17 : decode cX12_flood 17 = .ok (.goto 4, 3) := by decide +kernel
def D_X12_flood (N : Nat) (h : mh_H) (l0 : Nat) (l1 : Int32) : Option (Int32 × mh_H) :=
  (gR h 12 l0 0).bind fun v1 =>
  (aI h v1 (5 : Int32)).bind fun v2 =>
  (gR h 12 l0 0).bind fun v3 =>
  if l1 = 0 then ((uI h v3 (5 : Int32) (0 : Int32)).bind fun h4 =>
  some (v2, h4))
  else ((uI h v3 (5 : Int32) (1 : Int32)).bind fun h4 =>
  some (v2, h4))
set_option maxHeartbeats 4000000 in
set_option maxRecDepth 100000 in
theorem T_X12_flood {P : mh_E → Prop} {N d : Nat} (hd : 1 ≤ d) {z : (Int32 × mh_H)} {h : mh_H} {l0 : Nat} {l1 : Int32} (hq : D_X12_flood N h l0 l1 = some z) : mh_go P d mX12_flood 0 [some (.ref l0), some (.int l1), none] [] h (some (.int z.1)) z.2 := by
  unfold D_X12_flood at hq
  refine st_aload_n (pc := 0) dX12_flood_0 rfl ?_
  refine bd_getr (pc := 1) hq dX12_flood_1 fl_12_9_12 rfl (fun v1 hq => ?_)
  refine st_iconst (pc := 4) (v := (5 : Int32)) dX12_flood_4 rfl ?_
  refine bd_iald (pc := 5) hq dX12_flood_5 (fun v2 hq => ?_)
  refine st_istore_n (pc := 6) (lv' := [some (.ref l0), some (.int l1), some (.int v2)]) dX12_flood_6 rfl (by decide) rfl ?_
  refine st_aload_n (pc := 7) dX12_flood_7 rfl ?_
  refine bd_getr (pc := 8) hq dX12_flood_8 fl_12_9_12 rfl (fun v3 hq => ?_)
  refine st_iconst (pc := 11) (v := (5 : Int32)) dX12_flood_11 rfl ?_
  refine st_iload_n (pc := 12) dX12_flood_12 rfl ?_
  refine bd_if_eq (pc := 13) (tgt := 20) hq dX12_flood_13 (by decide) (fun _ hq => ?_) (fun _ hq => ?_)
  ·
    refine st_iconst (pc := 20) (v := (0 : Int32)) dX12_flood_20 rfl ?_
    refine bd_iast (pc := 21) hq dX12_flood_21 (fun h4 hq => ?_)
    refine st_iload_n (pc := 22) dX12_flood_22 rfl ?_
    exact bd_iret (pc := 23) hq dX12_flood_23 rfl
  ·
    refine st_iconst (pc := 16) (v := (1 : Int32)) dX12_flood_16 rfl ?_
    refine st_goto (pc := 17) (tgt := 21) dX12_flood_17 (by decide) ?_
    refine bd_iast (pc := 21) hq dX12_flood_21 (fun h4 hq => ?_)
    refine st_iload_n (pc := 22) dX12_flood_22 rfl ?_
    exact bd_iret (pc := 23) hq dX12_flood_23 rfl
-- HoleWaterModel.fade(II)I
theorem dX12_fade_19 : decode cX12_fade 19 = .ok (.aload_n 0, 1) := by decide +kernel
theorem dX12_fade_20 : decode cX12_fade 20 = .ok (.iconst 1, 1) := by decide +kernel
theorem dX12_fade_21 : decode cX12_fade 21 = .ok (.invokevirtual 80, 3) := by decide +kernel
theorem dX12_fade_24 : decode cX12_fade 24 = .ok (.ireturn, 1) := by decide +kernel
theorem dX12_fade_0 : decode cX12_fade 0 = .ok (.iload_n 1, 1) := by decide +kernel
theorem dX12_fade_1 : decode cX12_fade 1 = .ok (.invokestatic 155, 3) := by decide +kernel
theorem dX12_fade_4 : decode cX12_fade 4 = .ok (.ifCond .eq 15, 3) := by decide +kernel
theorem dX12_fade_7 : decode cX12_fade 7 = .ok (.iload_n 2, 1) := by decide +kernel
theorem dX12_fade_8 : decode cX12_fade 8 = .ok (.i2l, 1) := by decide +kernel
theorem dX12_fade_9 : decode cX12_fade 9 = .ok (.lconst 0, 1) := by decide +kernel
theorem dX12_fade_10 : decode cX12_fade 10 = .ok (.ldc2_w 78, 3) := by decide +kernel
theorem dX12_fade_13 : decode cX12_fade 13 = .ok (.invokestatic 65, 3) := by decide +kernel
theorem dX12_fade_16 : decode cX12_fade 16 = .ok (.ifCond .ne 9, 3) := by decide +kernel
theorem dX12_fade_25 : decode cX12_fade 25 = .ok (.aload_n 0, 1) := by decide +kernel
theorem dX12_fade_26 : decode cX12_fade 26 = .ok (.getfield 9, 3) := by decide +kernel
theorem dX12_fade_29 : decode cX12_fade 29 = .ok (.bipush 10, 2) := by decide +kernel
theorem dX12_fade_31 : decode cX12_fade 31 = .ok (.iload_n 1, 1) := by decide +kernel
theorem dX12_fade_32 : decode cX12_fade 32 = .ok (.iadd, 1) := by decide +kernel
theorem dX12_fade_33 : decode cX12_fade 33 = .ok (.iaload, 1) := by decide +kernel
theorem dX12_fade_34 : decode cX12_fade 34 = .ok (.istore_n 3, 1) := by decide +kernel
theorem dX12_fade_35 : decode cX12_fade 35 = .ok (.aload_n 0, 1) := by decide +kernel
theorem dX12_fade_36 : decode cX12_fade 36 = .ok (.getfield 9, 3) := by decide +kernel
theorem dX12_fade_39 : decode cX12_fade 39 = .ok (.bipush 10, 2) := by decide +kernel
theorem dX12_fade_41 : decode cX12_fade 41 = .ok (.iload_n 1, 1) := by decide +kernel
theorem dX12_fade_42 : decode cX12_fade 42 = .ok (.iadd, 1) := by decide +kernel
theorem dX12_fade_43 : decode cX12_fade 43 = .ok (.iload_n 2, 1) := by decide +kernel
theorem dX12_fade_44 : decode cX12_fade 44 = .ok (.iastore, 1) := by decide +kernel
theorem dX12_fade_45 : decode cX12_fade 45 = .ok (.iload_n 3, 1) := by decide +kernel
theorem dX12_fade_46 : decode cX12_fade 46 = .ok (.ireturn, 1) := by decide +kernel
def D_X12_fade_19 (N : Nat) (h : mh_H) (l0 : Nat) : Option (Int32 × mh_H) :=
  kO h 12 l0 <|
  (D_X12_error N h l0 (1 : Int32)).bind fun q1 =>
  some (q1.1, q1.2)
set_option maxHeartbeats 4000000 in
set_option maxRecDepth 100000 in
theorem T_X12_fade_19 {P : mh_E → Prop} {N d : Nat} (hd : 3 ≤ d) {z : (Int32 × mh_H)} {h : mh_H} {l0 : Nat} (hq : D_X12_fade_19 N h l0 = some z) : mh_go P d mX12_fade 19 [some (.ref l0), none, none, none] [] h (some (.int z.1)) z.2 := by
  unfold D_X12_fade_19 at hq
  refine st_aload_n (pc := 19) dX12_fade_19 rfl ?_
  refine st_iconst (pc := 20) (v := (1 : Int32)) dX12_fade_20 rfl ?_
  obtain ⟨⟨hbq1, hkq1⟩, hq⟩ := mh_oi hq
  obtain ⟨q1, e1, hq⟩ := mh_ob hq
  refine st_invV (pc := 21) (ci := 12) (vs := [.int (1 : Int32)]) (rest := []) (st2 := [.int q1.1]) dX12_fade_21 okX12_error (by decide) hkq1 hbq1 wd_1274 wd_1276 wp_37 pdX12_error rfl rfl rfl rfl (Nat.le_trans (by decide) hd) (Nat.le_of_ble_eq_true rfl) (T_X12_error (Nat.le_refl _) e1) rfl ?_
  exact bd_iret (pc := 24) hq dX12_fade_24 rfl
def D_X12_fade (N : Nat) (h : mh_H) (l0 : Nat) (l1 : Int32) (l2 : Int32) : Option (Int32 × mh_H) :=
  (D_X12_isColour N h l1).bind fun q1 =>
  if q1.1 = 0 then (D_X12_fade_19 N q1.2 l0)
  else ((D_X12_in N q1.2 l2.toInt64 (0 : Int64) (99 : Int64)).bind fun q2 =>
  if q2.1 = 0 then (D_X12_fade_19 N q2.2 l0)
  else ((gR q2.2 12 l0 0).bind fun v3 =>
  (aI q2.2 v3 ((10 : Int32) + l1)).bind fun v4 =>
  (gR q2.2 12 l0 0).bind fun v5 =>
  (uI q2.2 v5 ((10 : Int32) + l1) l2).bind fun h6 =>
  some (v4, h6)))
set_option maxHeartbeats 4000000 in
set_option maxRecDepth 100000 in
theorem T_X12_fade {P : mh_E → Prop} {N d : Nat} (hd : 3 ≤ d) {z : (Int32 × mh_H)} {h : mh_H} {l0 : Nat} {l1 : Int32} {l2 : Int32} (hq : D_X12_fade N h l0 l1 l2 = some z) : mh_go P d mX12_fade 0 [some (.ref l0), some (.int l1), some (.int l2), none] [] h (some (.int z.1)) z.2 := by
  unfold D_X12_fade at hq
  refine st_iload_n (pc := 0) dX12_fade_0 rfl ?_
  obtain ⟨q1, e1, hq⟩ := mh_ob hq
  refine st_invS (pc := 1) (Y := mX12_isColour) (vs := [.int l1]) (rest := []) (st2 := [.int q1.1]) dX12_fade_1 okX12_isColour wd_1358 wd_1359 pdX12_isColour rfl rfl rfl rfl (Nat.le_trans (by decide) hd) (Nat.le_of_ble_eq_true rfl) (T_X12_isColour (Nat.le_refl _) e1) rfl ?_
  refine bd_if_eq (pc := 4) (tgt := 19) hq dX12_fade_4 (by decide) (fun _ hq => ?_) (fun _ hq => ?_)
  ·
    refine st_lesS (lv' := [some (.ref l0), none, none, none]) ⟨Or.inr rfl, Or.inl rfl, Or.inl rfl, Or.inr rfl, trivial⟩ ?_
    exact T_X12_fade_19 hd hq
  ·
    refine st_iload_n (pc := 7) dX12_fade_7 rfl ?_
    refine st_i2l (pc := 8) dX12_fade_8 ?_
    refine st_lconst (pc := 9) (v := 0) dX12_fade_9 rfl ?_
    refine st_ldc2 (pc := 10) (v := (99 : Int64)) dX12_fade_10 wd_1273 ?_
    obtain ⟨q2, e2, hq⟩ := mh_ob hq
    refine st_invS (pc := 13) (Y := mX12_in) (vs := [.long l2.toInt64, .long (0 : Int64), .long (99 : Int64)]) (rest := []) (st2 := [.int q2.1]) dX12_fade_13 okX12_in wd_1270 wd_1271 pdX12_in rfl rfl rfl rfl (Nat.le_trans (by decide) hd) (Nat.le_of_ble_eq_true rfl) (T_X12_in (Nat.le_refl _) e2) rfl ?_
    refine bd_if_ne (pc := 16) (tgt := 25) hq dX12_fade_16 (by decide) (fun _ hq => ?_) (fun _ hq => ?_)
    ·
      refine st_lesS (lv' := [some (.ref l0), none, none, none]) ⟨Or.inr rfl, Or.inl rfl, Or.inl rfl, Or.inr rfl, trivial⟩ ?_
      exact T_X12_fade_19 hd hq
    ·
      refine st_aload_n (pc := 25) dX12_fade_25 rfl ?_
      refine bd_getr (pc := 26) hq dX12_fade_26 fl_12_9_12 rfl (fun v3 hq => ?_)
      refine st_bipush (pc := 29) (v := (10 : Int32)) dX12_fade_29 (by decide) ?_
      refine st_iload_n (pc := 31) dX12_fade_31 rfl ?_
      refine st_iadd (pc := 32) dX12_fade_32 ?_
      refine bd_iald (pc := 33) hq dX12_fade_33 (fun v4 hq => ?_)
      refine st_istore_n (pc := 34) (lv' := [some (.ref l0), some (.int l1), some (.int l2), some (.int v4)]) dX12_fade_34 rfl (by decide) rfl ?_
      refine st_aload_n (pc := 35) dX12_fade_35 rfl ?_
      refine bd_getr (pc := 36) hq dX12_fade_36 fl_12_9_12 rfl (fun v5 hq => ?_)
      refine st_bipush (pc := 39) (v := (10 : Int32)) dX12_fade_39 (by decide) ?_
      refine st_iload_n (pc := 41) dX12_fade_41 rfl ?_
      refine st_iadd (pc := 42) dX12_fade_42 ?_
      refine st_iload_n (pc := 43) dX12_fade_43 rfl ?_
      refine bd_iast (pc := 44) hq dX12_fade_44 (fun h6 hq => ?_)
      refine st_iload_n (pc := 45) dX12_fade_45 rfl ?_
      exact bd_iret (pc := 46) hq dX12_fade_46 rfl
-- HoleWaterModel.hours(I)I
theorem dX12_hours_40 : decode cX12_hours 40 = .ok (.iload_n 2, 1) := by decide +kernel
theorem dX12_hours_41 : decode cX12_hours 41 = .ok (.iload_n 1, 1) := by decide +kernel
theorem dX12_hours_42 : decode cX12_hours 42 = .ok (.if_icmp .ge 13, 3) := by decide +kernel
theorem dX12_hours_55 : decode cX12_hours 55 = .ok (.aload_n 0, 1) := by decide +kernel
theorem dX12_hours_56 : decode cX12_hours 56 = .ok (.getfield 9, 3) := by decide +kernel
theorem dX12_hours_59 : decode cX12_hours 59 = .ok (.iconst 0, 1) := by decide +kernel
theorem dX12_hours_60 : decode cX12_hours 60 = .ok (.iaload, 1) := by decide +kernel
theorem dX12_hours_61 : decode cX12_hours 61 = .ok (.ireturn, 1) := by decide +kernel
theorem dX12_hours_45 : decode cX12_hours 45 = .ok (.aload_n 0, 1) := by decide +kernel
theorem dX12_hours_46 : decode cX12_hours 46 = .ok (.invokevirtual 160, 3) := by decide +kernel
theorem dX12_hours_49 : decode cX12_hours 49 = .ok (.iinc 2 1, 3) := by decide +kernel
theorem dX12_hours_52 : decode cX12_hours 52 = .ok (.goto (-12), 3) := by decide +kernel
theorem dX12_hours_0 : decode cX12_hours 0 = .ok (.iload_n 1, 1) := by decide +kernel
theorem dX12_hours_1 : decode cX12_hours 1 = .ok (.i2l, 1) := by decide +kernel
theorem dX12_hours_2 : decode cX12_hours 2 = .ok (.lconst 1, 1) := by decide +kernel
theorem dX12_hours_3 : decode cX12_hours 3 = .ok (.ldc2_w 158, 3) := by decide +kernel
theorem dX12_hours_6 : decode cX12_hours 6 = .ok (.invokestatic 65, 3) := by decide +kernel
theorem dX12_hours_9 : decode cX12_hours 9 = .ok (.ifCond .ne 9, 3) := by decide +kernel
theorem dX12_hours_12 : decode cX12_hours 12 = .ok (.aload_n 0, 1) := by decide +kernel
theorem dX12_hours_13 : decode cX12_hours 13 = .ok (.iconst 1, 1) := by decide +kernel
theorem dX12_hours_14 : decode cX12_hours 14 = .ok (.invokevirtual 80, 3) := by decide +kernel
theorem dX12_hours_17 : decode cX12_hours 17 = .ok (.ireturn, 1) := by decide +kernel
theorem dX12_hours_18 : decode cX12_hours 18 = .ok (.aload_n 0, 1) := by decide +kernel
theorem dX12_hours_19 : decode cX12_hours 19 = .ok (.getfield 9, 3) := by decide +kernel
theorem dX12_hours_22 : decode cX12_hours 22 = .ok (.iconst 0, 1) := by decide +kernel
theorem dX12_hours_23 : decode cX12_hours 23 = .ok (.iaload, 1) := by decide +kernel
theorem dX12_hours_24 : decode cX12_hours 24 = .ok (.iload_n 1, 1) := by decide +kernel
theorem dX12_hours_25 : decode cX12_hours 25 = .ok (.iadd, 1) := by decide +kernel
theorem dX12_hours_26 : decode cX12_hours 26 = .ok (.sipush 999, 3) := by decide +kernel
theorem dX12_hours_29 : decode cX12_hours 29 = .ok (.if_icmp .le 9, 3) := by decide +kernel
theorem dX12_hours_38 : decode cX12_hours 38 = .ok (.iconst 0, 1) := by decide +kernel
theorem dX12_hours_39 : decode cX12_hours 39 = .ok (.istore_n 2, 1) := by decide +kernel
theorem dX12_hours_32 : decode cX12_hours 32 = .ok (.aload_n 0, 1) := by decide +kernel
theorem dX12_hours_33 : decode cX12_hours 33 = .ok (.iconst 3, 1) := by decide +kernel
theorem dX12_hours_34 : decode cX12_hours 34 = .ok (.invokevirtual 80, 3) := by decide +kernel
theorem dX12_hours_37 : decode cX12_hours 37 = .ok (.ireturn, 1) := by decide +kernel
def D_X12_hours_40 (N : Nat) : Nat → mh_H → Nat → Int32 → Int32 → Option (Int32 × mh_H)
  | 0, _, _, _, _ => none
  | F + 1, h, l0, l1, l2 =>
    if l1 ≤ l2 then ((gR h 12 l0 0).bind fun v1 =>
    (aI h v1 (0 : Int32)).bind fun v2 =>
    some (v2, h))
    else (kO h 12 l0 <|
    (D_X12_hour N h l0).bind fun q1 =>
    (D_X12_hours_40 N F) q1 l0 l1 (l2 + Int32.ofInt (1)))
set_option maxHeartbeats 4000000 in
set_option maxRecDepth 100000 in
theorem T_X12_hours_40 {P : mh_E → Prop} {N d : Nat} (hd : 6 ≤ d) {z : (Int32 × mh_H)} : ∀ (F : Nat) (h : mh_H) (l0 : Nat) (l1 : Int32) (l2 : Int32), D_X12_hours_40 N F h l0 l1 l2 = some z → mh_go P d mX12_hours 40 [some (.ref l0), some (.int l1), some (.int l2)] [] h (some (.int z.1)) z.2 := by
  intro F
  induction F with
  | zero => intro h l0 l1 l2 hq; rw [D_X12_hours_40] at hq; cases hq
  | succ F ih =>
    intro h l0 l1 l2 hq
    rw [D_X12_hours_40] at hq
    refine st_iload_n (pc := 40) dX12_hours_40 rfl ?_
    refine st_iload_n (pc := 41) dX12_hours_41 rfl ?_
    refine bd_icmp_ge (pc := 42) (tgt := 55) hq dX12_hours_42 (by decide) (fun _ hq => ?_) (fun _ hq => ?_)
    ·
      refine st_aload_n (pc := 55) dX12_hours_55 rfl ?_
      refine bd_getr (pc := 56) hq dX12_hours_56 fl_12_9_12 rfl (fun v1 hq => ?_)
      refine st_iconst (pc := 59) (v := (0 : Int32)) dX12_hours_59 rfl ?_
      refine bd_iald (pc := 60) hq dX12_hours_60 (fun v2 hq => ?_)
      exact bd_iret (pc := 61) hq dX12_hours_61 rfl
    ·
      refine st_aload_n (pc := 45) dX12_hours_45 rfl ?_
      obtain ⟨⟨hbq1, hkq1⟩, hq⟩ := mh_oi hq
      obtain ⟨q1, e1, hq⟩ := mh_ob hq
      refine st_invV (pc := 46) (ci := 12) (vs := []) (rest := []) (st2 := []) dX12_hours_46 okX12_hour (by decide) hkq1 hbq1 wd_1366 wd_1368 wp_46 pdX12_hour rfl rfl rfl rfl (Nat.le_trans (by decide) hd) (Nat.le_of_ble_eq_true rfl) (T_X12_hour (Nat.le_refl _) e1) rfl ?_
      refine st_iinc (pc := 49) (lv' := [some (.ref l0), some (.int l1), some (.int (l2 + Int32.ofInt (1)))]) dX12_hours_49 rfl rfl (by decide) rfl ?_
      refine st_goto (pc := 52) (tgt := 40) dX12_hours_52 (by decide) ?_
      exact ih _ _ _ _ hq
def D_X12_hours (N : Nat) (h : mh_H) (l0 : Nat) (l1 : Int32) : Option (Int32 × mh_H) :=
  (D_X12_in N h l1.toInt64 (1 : Int64) (60 : Int64)).bind fun q1 =>
  if q1.1 = 0 then (kO q1.2 12 l0 <|
  (D_X12_error N q1.2 l0 (1 : Int32)).bind fun q2 =>
  some (q2.1, q2.2))
  else ((gR q1.2 12 l0 0).bind fun v2 =>
  (aI q1.2 v2 (0 : Int32)).bind fun v3 =>
  if (v3 + l1) ≤ (999 : Int32) then (D_X12_hours_40 N N q1.2 l0 l1 (0 : Int32))
  else (kO q1.2 12 l0 <|
  (D_X12_error N q1.2 l0 (3 : Int32)).bind fun q4 =>
  some (q4.1, q4.2)))
set_option maxHeartbeats 4000000 in
set_option maxRecDepth 100000 in
theorem T_X12_hours {P : mh_E → Prop} {N d : Nat} (hd : 6 ≤ d) {z : (Int32 × mh_H)} {h : mh_H} {l0 : Nat} {l1 : Int32} (hq : D_X12_hours N h l0 l1 = some z) : mh_go P d mX12_hours 0 [some (.ref l0), some (.int l1), none] [] h (some (.int z.1)) z.2 := by
  unfold D_X12_hours at hq
  refine st_iload_n (pc := 0) dX12_hours_0 rfl ?_
  refine st_i2l (pc := 1) dX12_hours_1 ?_
  refine st_lconst (pc := 2) (v := 1) dX12_hours_2 rfl ?_
  refine st_ldc2 (pc := 3) (v := (60 : Int64)) dX12_hours_3 wd_1365 ?_
  obtain ⟨q1, e1, hq⟩ := mh_ob hq
  refine st_invS (pc := 6) (Y := mX12_in) (vs := [.long l1.toInt64, .long (1 : Int64), .long (60 : Int64)]) (rest := []) (st2 := [.int q1.1]) dX12_hours_6 okX12_in wd_1270 wd_1271 pdX12_in rfl rfl rfl rfl (Nat.le_trans (by decide) hd) (Nat.le_of_ble_eq_true rfl) (T_X12_in (Nat.le_refl _) e1) rfl ?_
  refine bd_if_ne (pc := 9) (tgt := 18) hq dX12_hours_9 (by decide) (fun _ hq => ?_) (fun _ hq => ?_)
  ·
    refine st_aload_n (pc := 12) dX12_hours_12 rfl ?_
    refine st_iconst (pc := 13) (v := (1 : Int32)) dX12_hours_13 rfl ?_
    obtain ⟨⟨hbq2, hkq2⟩, hq⟩ := mh_oi hq
    obtain ⟨q2, e2, hq⟩ := mh_ob hq
    refine st_invV (pc := 14) (ci := 12) (vs := [.int (1 : Int32)]) (rest := []) (st2 := [.int q2.1]) dX12_hours_14 okX12_error (by decide) hkq2 hbq2 wd_1274 wd_1276 wp_37 pdX12_error rfl rfl rfl rfl (Nat.le_trans (by decide) hd) (Nat.le_of_ble_eq_true rfl) (T_X12_error (Nat.le_refl _) e2) rfl ?_
    exact bd_iret (pc := 17) hq dX12_hours_17 rfl
  ·
    refine st_aload_n (pc := 18) dX12_hours_18 rfl ?_
    refine bd_getr (pc := 19) hq dX12_hours_19 fl_12_9_12 rfl (fun v2 hq => ?_)
    refine st_iconst (pc := 22) (v := (0 : Int32)) dX12_hours_22 rfl ?_
    refine bd_iald (pc := 23) hq dX12_hours_23 (fun v3 hq => ?_)
    refine st_iload_n (pc := 24) dX12_hours_24 rfl ?_
    refine st_iadd (pc := 25) dX12_hours_25 ?_
    refine st_sipush (pc := 26) (v := (999 : Int32)) dX12_hours_26 (by decide) ?_
    refine bd_icmp_le (pc := 29) (tgt := 38) hq dX12_hours_29 (by decide) (fun _ hq => ?_) (fun _ hq => ?_)
    ·
      refine st_iconst (pc := 38) (v := (0 : Int32)) dX12_hours_38 rfl ?_
      refine st_istore_n (pc := 39) (lv' := [some (.ref l0), some (.int l1), some (.int (0 : Int32))]) dX12_hours_39 rfl (by decide) rfl ?_
      exact T_X12_hours_40 hd N _ _ _ _ hq
    ·
      refine st_aload_n (pc := 32) dX12_hours_32 rfl ?_
      refine st_iconst (pc := 33) (v := (3 : Int32)) dX12_hours_33 rfl ?_
      obtain ⟨⟨hbq4, hkq4⟩, hq⟩ := mh_oi hq
      obtain ⟨q4, e4, hq⟩ := mh_ob hq
      refine st_invV (pc := 34) (ci := 12) (vs := [.int (3 : Int32)]) (rest := []) (st2 := [.int q4.1]) dX12_hours_34 okX12_error (by decide) hkq4 hbq4 wd_1274 wd_1276 wp_37 pdX12_error rfl rfl rfl rfl (Nat.le_trans (by decide) hd) (Nat.le_of_ble_eq_true rfl) (T_X12_error (Nat.le_refl _) e4) rfl ?_
      exact bd_iret (pc := 37) hq dX12_hours_37 rfl
