-- HoleWater$Water.sendOff(ILHoleWater$World;)V
theorem dX8_sendOff_99 : decode cX8_sendOff 99 = .ok (.iinc 6 1, 3) := by decide +kernel
theorem dX8_sendOff_102 : decode cX8_sendOff 102 = .ok (.goto (-78), 3) := by decide +kernel
theorem dX8_sendOff_97 : decode cX8_sendOff 97 = .ok (.istore 5, 2) := by decide +kernel
theorem dX8_sendOff_90 : decode cX8_sendOff 90 = .ok (.iload 6, 2) := by decide +kernel
theorem dX8_sendOff_92 : decode cX8_sendOff 92 = .ok (.goto 5, 3) := by decide +kernel
theorem dX8_sendOff_154 : decode cX8_sendOff 154 = .ok (.iinc 6 1, 3) := by decide +kernel
theorem dX8_sendOff_157 : decode cX8_sendOff 157 = .ok (.goto (-39), 3) := by decide +kernel
theorem dX8_sendOff_118 : decode cX8_sendOff 118 = .ok (.iload 6, 2) := by decide +kernel
theorem dX8_sendOff_120 : decode cX8_sendOff 120 = .ok (.iconst 5, 1) := by decide +kernel
theorem dX8_sendOff_121 : decode cX8_sendOff 121 = .ok (.if_icmp .ge 39, 3) := by decide +kernel
theorem dX8_sendOff_160 : decode cX8_sendOff 160 = .ok (.return_, 1) := by decide +kernel
theorem dX8_sendOff_124 : decode cX8_sendOff 124 = .ok (.iload 5, 2) := by decide +kernel
theorem dX8_sendOff_126 : decode cX8_sendOff 126 = .ok (.ifCond .lt 34, 3) := by decide +kernel
theorem dX8_sendOff_129 : decode cX8_sendOff 129 = .ok (.aload_n 0, 1) := by decide +kernel
theorem dX8_sendOff_130 : decode cX8_sendOff 130 = .ok (.getfield 29, 3) := by decide +kernel
theorem dX8_sendOff_133 : decode cX8_sendOff 133 = .ok (.iload_n 1, 1) := by decide +kernel
theorem dX8_sendOff_134 : decode cX8_sendOff 134 = .ok (.iconst 5, 1) := by decide +kernel
theorem dX8_sendOff_135 : decode cX8_sendOff 135 = .ok (.imul, 1) := by decide +kernel
theorem dX8_sendOff_136 : decode cX8_sendOff 136 = .ok (.iload 6, 2) := by decide +kernel
theorem dX8_sendOff_138 : decode cX8_sendOff 138 = .ok (.iadd, 1) := by decide +kernel
theorem dX8_sendOff_139 : decode cX8_sendOff 139 = .ok (.iaload, 1) := by decide +kernel
theorem dX8_sendOff_140 : decode cX8_sendOff 140 = .ok (.ifCond .le 14, 3) := by decide +kernel
theorem dX8_sendOff_143 : decode cX8_sendOff 143 = .ok (.aload_n 0, 1) := by decide +kernel
theorem dX8_sendOff_144 : decode cX8_sendOff 144 = .ok (.iload_n 1, 1) := by decide +kernel
theorem dX8_sendOff_145 : decode cX8_sendOff 145 = .ok (.iload 6, 2) := by decide +kernel
theorem dX8_sendOff_147 : decode cX8_sendOff 147 = .ok (.iload_n 3, 1) := by decide +kernel
theorem dX8_sendOff_148 : decode cX8_sendOff 148 = .ok (.iload 5, 2) := by decide +kernel
theorem dX8_sendOff_150 : decode cX8_sendOff 150 = .ok (.aload_n 2, 1) := by decide +kernel
theorem dX8_sendOff_151 : decode cX8_sendOff 151 = .ok (.invokevirtual 135, 3) := by decide +kernel
theorem dX8_sendOff_24 : decode cX8_sendOff 24 = .ok (.iload 6, 2) := by decide +kernel
theorem dX8_sendOff_26 : decode cX8_sendOff 26 = .ok (.aload_n 2, 1) := by decide +kernel
theorem dX8_sendOff_27 : decode cX8_sendOff 27 = .ok (.getfield 60, 3) := by decide +kernel
theorem dX8_sendOff_30 : decode cX8_sendOff 30 = .ok (.if_icmp .ge 75, 3) := by decide +kernel
theorem dX8_sendOff_105 : decode cX8_sendOff 105 = .ok (.aload_n 0, 1) := by decide +kernel
theorem dX8_sendOff_106 : decode cX8_sendOff 106 = .ok (.getfield 29, 3) := by decide +kernel
theorem dX8_sendOff_109 : decode cX8_sendOff 109 = .ok (.iload_n 1, 1) := by decide +kernel
theorem dX8_sendOff_110 : decode cX8_sendOff 110 = .ok (.iconst 5, 1) := by decide +kernel
theorem dX8_sendOff_111 : decode cX8_sendOff 111 = .ok (.imul, 1) := by decide +kernel
theorem dX8_sendOff_112 : decode cX8_sendOff 112 = .ok (.iload 4, 2) := by decide +kernel
theorem dX8_sendOff_114 : decode cX8_sendOff 114 = .ok (.iastore, 1) := by decide +kernel
theorem dX8_sendOff_115 : decode cX8_sendOff 115 = .ok (.iconst 1, 1) := by decide +kernel
theorem dX8_sendOff_116 : decode cX8_sendOff 116 = .ok (.istore 6, 2) := by decide +kernel
theorem dX8_sendOff_33 : decode cX8_sendOff 33 = .ok (.aload_n 2, 1) := by decide +kernel
theorem dX8_sendOff_34 : decode cX8_sendOff 34 = .ok (.getfield 65, 3) := by decide +kernel
theorem dX8_sendOff_37 : decode cX8_sendOff 37 = .ok (.iload 6, 2) := by decide +kernel
theorem dX8_sendOff_39 : decode cX8_sendOff 39 = .ok (.aaload, 1) := by decide +kernel
theorem dX8_sendOff_40 : decode cX8_sendOff 40 = .ok (.getfield 128, 3) := by decide +kernel
theorem dX8_sendOff_43 : decode cX8_sendOff 43 = .ok (.iload_n 1, 1) := by decide +kernel
theorem dX8_sendOff_44 : decode cX8_sendOff 44 = .ok (.if_icmp .ne 55, 3) := by decide +kernel
theorem dX8_sendOff_47 : decode cX8_sendOff 47 = .ok (.aload_n 0, 1) := by decide +kernel
theorem dX8_sendOff_48 : decode cX8_sendOff 48 = .ok (.iload 6, 2) := by decide +kernel
theorem dX8_sendOff_50 : decode cX8_sendOff 50 = .ok (.aload_n 2, 1) := by decide +kernel
theorem dX8_sendOff_51 : decode cX8_sendOff 51 = .ok (.getfield 65, 3) := by decide +kernel
theorem dX8_sendOff_54 : decode cX8_sendOff 54 = .ok (.iload 6, 2) := by decide +kernel
theorem dX8_sendOff_56 : decode cX8_sendOff 56 = .ok (.aaload, 1) := by decide +kernel
theorem dX8_sendOff_57 : decode cX8_sendOff 57 = .ok (.iconst 0, 1) := by decide +kernel
theorem dX8_sendOff_58 : decode cX8_sendOff 58 = .ok (.aload_n 0, 1) := by decide +kernel
theorem dX8_sendOff_59 : decode cX8_sendOff 59 = .ok (.getfield 47, 3) := by decide +kernel
theorem dX8_sendOff_62 : decode cX8_sendOff 62 = .ok (.iload 6, 2) := by decide +kernel
theorem dX8_sendOff_64 : decode cX8_sendOff 64 = .ok (.iaload, 1) := by decide +kernel
theorem dX8_sendOff_65 : decode cX8_sendOff 65 = .ok (.invokevirtual 131, 3) := by decide +kernel
theorem dX8_sendOff_68 : decode cX8_sendOff 68 = .ok (.iload 5, 2) := by decide +kernel
theorem dX8_sendOff_70 : decode cX8_sendOff 70 = .ok (.ifCond .lt 20, 3) := by decide +kernel
theorem dX8_sendOff_73 : decode cX8_sendOff 73 = .ok (.aload_n 0, 1) := by decide +kernel
theorem dX8_sendOff_74 : decode cX8_sendOff 74 = .ok (.getfield 47, 3) := by decide +kernel
theorem dX8_sendOff_77 : decode cX8_sendOff 77 = .ok (.iload 6, 2) := by decide +kernel
theorem dX8_sendOff_79 : decode cX8_sendOff 79 = .ok (.iaload, 1) := by decide +kernel
theorem dX8_sendOff_80 : decode cX8_sendOff 80 = .ok (.aload_n 0, 1) := by decide +kernel
theorem dX8_sendOff_81 : decode cX8_sendOff 81 = .ok (.getfield 47, 3) := by decide +kernel
theorem dX8_sendOff_84 : decode cX8_sendOff 84 = .ok (.iload 5, 2) := by decide +kernel
theorem dX8_sendOff_86 : decode cX8_sendOff 86 = .ok (.iaload, 1) := by decide +kernel
theorem dX8_sendOff_87 : decode cX8_sendOff 87 = .ok (.if_icmp .le 8, 3) := by decide +kernel
theorem dX8_sendOff_95 : decode cX8_sendOff 95 = .ok (.iload 5, 2) := by decide +kernel
theorem dX8_sendOff_0 : decode cX8_sendOff 0 = .ok (.aload_n 0, 1) := by decide +kernel
theorem dX8_sendOff_1 : decode cX8_sendOff 1 = .ok (.getfield 29, 3) := by decide +kernel
theorem dX8_sendOff_4 : decode cX8_sendOff 4 = .ok (.iload_n 1, 1) := by decide +kernel
theorem dX8_sendOff_5 : decode cX8_sendOff 5 = .ok (.iconst 5, 1) := by decide +kernel
theorem dX8_sendOff_6 : decode cX8_sendOff 6 = .ok (.imul, 1) := by decide +kernel
theorem dX8_sendOff_7 : decode cX8_sendOff 7 = .ok (.iaload, 1) := by decide +kernel
theorem dX8_sendOff_8 : decode cX8_sendOff 8 = .ok (.istore_n 3, 1) := by decide +kernel
theorem dX8_sendOff_9 : decode cX8_sendOff 9 = .ok (.aload_n 0, 1) := by decide +kernel
theorem dX8_sendOff_10 : decode cX8_sendOff 10 = .ok (.iload_n 1, 1) := by decide +kernel
theorem dX8_sendOff_11 : decode cX8_sendOff 11 = .ok (.iload_n 3, 1) := by decide +kernel
theorem dX8_sendOff_12 : decode cX8_sendOff 12 = .ok (.aload_n 2, 1) := by decide +kernel
theorem dX8_sendOff_13 : decode cX8_sendOff 13 = .ok (.invokevirtual 124, 3) := by decide +kernel
theorem dX8_sendOff_16 : decode cX8_sendOff 16 = .ok (.istore 4, 2) := by decide +kernel
theorem dX8_sendOff_18 : decode cX8_sendOff 18 = .ok (.iconst (-1), 1) := by decide +kernel
theorem dX8_sendOff_19 : decode cX8_sendOff 19 = .ok (.istore 5, 2) := by decide +kernel
theorem dX8_sendOff_21 : decode cX8_sendOff 21 = .ok (.iconst 0, 1) := by decide +kernel
theorem dX8_sendOff_22 : decode cX8_sendOff 22 = .ok (.istore 6, 2) := by decide +kernel
def D_X8_sendOff_99 (N : Nat) (k24 : mh_H → Nat → Int32 → Nat → Int32 → Int32 → Int32 → Int32 → Option mh_H) (h : mh_H) (l0 : Nat) (l1 : Int32) (l2 : Nat) (l3 : Int32) (l4 : Int32) (l5 : Int32) (l6 : Int32) : Option mh_H :=
  k24 h l0 l1 l2 l3 l4 l5 (l6 + Int32.ofInt (1))
set_option maxHeartbeats 4000000 in
set_option maxRecDepth 100000 in
theorem T_X8_sendOff_99 {P : mh_E → Prop} {N d : Nat} (hd : 5 ≤ d) {z : mh_H} {k24 : mh_H → Nat → Int32 → Nat → Int32 → Int32 → Int32 → Int32 → Option mh_H} (hk24 : ∀ (h : mh_H) (l0 : Nat) (l1 : Int32) (l2 : Nat) (l3 : Int32) (l4 : Int32) (l5 : Int32) (l6 : Int32), k24 h l0 l1 l2 l3 l4 l5 l6 = some z → mh_go P d mX8_sendOff 24 [some (.ref l0), some (.int l1), some (.ref l2), some (.int l3), some (.int l4), some (.int l5), some (.int l6)] [] h none z) {h : mh_H} {l0 : Nat} {l1 : Int32} {l2 : Nat} {l3 : Int32} {l4 : Int32} {l5 : Int32} {l6 : Int32} (hq : D_X8_sendOff_99 N k24 h l0 l1 l2 l3 l4 l5 l6 = some z) : mh_go P d mX8_sendOff 99 [some (.ref l0), some (.int l1), some (.ref l2), some (.int l3), some (.int l4), some (.int l5), some (.int l6)] [] h none z := by
  unfold D_X8_sendOff_99 at hq
  refine st_iinc (pc := 99) (lv' := [some (.ref l0), some (.int l1), some (.ref l2), some (.int l3), some (.int l4), some (.int l5), some (.int (l6 + Int32.ofInt (1)))]) dX8_sendOff_99 rfl rfl (by decide) rfl ?_
  refine st_goto (pc := 102) (tgt := 24) dX8_sendOff_102 (by decide) ?_
  exact hk24 _ _ _ _ _ _ _ _ hq
def D_X8_sendOff_97 (N : Nat) (k24 : mh_H → Nat → Int32 → Nat → Int32 → Int32 → Int32 → Int32 → Option mh_H) (h : mh_H) (l0 : Nat) (l1 : Int32) (l2 : Nat) (l3 : Int32) (l4 : Int32) (l6 : Int32) (s0 : Int32) : Option mh_H :=
  D_X8_sendOff_99 N k24 h l0 l1 l2 l3 l4 s0 l6
set_option maxHeartbeats 4000000 in
set_option maxRecDepth 100000 in
theorem T_X8_sendOff_97 {P : mh_E → Prop} {N d : Nat} (hd : 5 ≤ d) {z : mh_H} {k24 : mh_H → Nat → Int32 → Nat → Int32 → Int32 → Int32 → Int32 → Option mh_H} (hk24 : ∀ (h : mh_H) (l0 : Nat) (l1 : Int32) (l2 : Nat) (l3 : Int32) (l4 : Int32) (l5 : Int32) (l6 : Int32), k24 h l0 l1 l2 l3 l4 l5 l6 = some z → mh_go P d mX8_sendOff 24 [some (.ref l0), some (.int l1), some (.ref l2), some (.int l3), some (.int l4), some (.int l5), some (.int l6)] [] h none z) {h : mh_H} {l0 : Nat} {l1 : Int32} {l2 : Nat} {l3 : Int32} {l4 : Int32} {l6 : Int32} {s0 : Int32} (hq : D_X8_sendOff_97 N k24 h l0 l1 l2 l3 l4 l6 s0 = some z) : mh_go P d mX8_sendOff 97 [some (.ref l0), some (.int l1), some (.ref l2), some (.int l3), some (.int l4), none, some (.int l6)] [.int s0] h none z := by
  unfold D_X8_sendOff_97 at hq
  refine st_istore (pc := 97) (lv' := [some (.ref l0), some (.int l1), some (.ref l2), some (.int l3), some (.int l4), some (.int s0), some (.int l6)]) dX8_sendOff_97 rfl (by decide) rfl ?_
  exact T_X8_sendOff_99 hd hk24 hq
def D_X8_sendOff_90 (N : Nat) (k24 : mh_H → Nat → Int32 → Nat → Int32 → Int32 → Int32 → Int32 → Option mh_H) (h : mh_H) (l0 : Nat) (l1 : Int32) (l2 : Nat) (l3 : Int32) (l4 : Int32) (l6 : Int32) : Option mh_H :=
  D_X8_sendOff_97 N k24 h l0 l1 l2 l3 l4 l6 l6
set_option maxHeartbeats 4000000 in
set_option maxRecDepth 100000 in
theorem T_X8_sendOff_90 {P : mh_E → Prop} {N d : Nat} (hd : 5 ≤ d) {z : mh_H} {k24 : mh_H → Nat → Int32 → Nat → Int32 → Int32 → Int32 → Int32 → Option mh_H} (hk24 : ∀ (h : mh_H) (l0 : Nat) (l1 : Int32) (l2 : Nat) (l3 : Int32) (l4 : Int32) (l5 : Int32) (l6 : Int32), k24 h l0 l1 l2 l3 l4 l5 l6 = some z → mh_go P d mX8_sendOff 24 [some (.ref l0), some (.int l1), some (.ref l2), some (.int l3), some (.int l4), some (.int l5), some (.int l6)] [] h none z) {h : mh_H} {l0 : Nat} {l1 : Int32} {l2 : Nat} {l3 : Int32} {l4 : Int32} {l6 : Int32} (hq : D_X8_sendOff_90 N k24 h l0 l1 l2 l3 l4 l6 = some z) : mh_go P d mX8_sendOff 90 [some (.ref l0), some (.int l1), some (.ref l2), some (.int l3), some (.int l4), none, some (.int l6)] [] h none z := by
  unfold D_X8_sendOff_90 at hq
  refine st_iload (pc := 90) dX8_sendOff_90 rfl ?_
  refine st_goto (pc := 92) (tgt := 97) dX8_sendOff_92 (by decide) ?_
  exact T_X8_sendOff_97 hd hk24 hq
def D_X8_sendOff_154 (N : Nat) (k118 : mh_H → Nat → Int32 → Nat → Int32 → Int32 → Int32 → Option mh_H) (h : mh_H) (l0 : Nat) (l1 : Int32) (l2 : Nat) (l3 : Int32) (l5 : Int32) (l6 : Int32) : Option mh_H :=
  k118 h l0 l1 l2 l3 l5 (l6 + Int32.ofInt (1))
set_option maxHeartbeats 4000000 in
set_option maxRecDepth 100000 in
theorem T_X8_sendOff_154 {P : mh_E → Prop} {N d : Nat} (hd : 5 ≤ d) {z : mh_H} {k118 : mh_H → Nat → Int32 → Nat → Int32 → Int32 → Int32 → Option mh_H} (hk118 : ∀ (h : mh_H) (l0 : Nat) (l1 : Int32) (l2 : Nat) (l3 : Int32) (l5 : Int32) (l6 : Int32), k118 h l0 l1 l2 l3 l5 l6 = some z → mh_go P d mX8_sendOff 118 [some (.ref l0), some (.int l1), some (.ref l2), some (.int l3), none, some (.int l5), some (.int l6)] [] h none z) {h : mh_H} {l0 : Nat} {l1 : Int32} {l2 : Nat} {l3 : Int32} {l5 : Int32} {l6 : Int32} (hq : D_X8_sendOff_154 N k118 h l0 l1 l2 l3 l5 l6 = some z) : mh_go P d mX8_sendOff 154 [some (.ref l0), some (.int l1), some (.ref l2), some (.int l3), none, some (.int l5), some (.int l6)] [] h none z := by
  unfold D_X8_sendOff_154 at hq
  refine st_iinc (pc := 154) (lv' := [some (.ref l0), some (.int l1), some (.ref l2), some (.int l3), none, some (.int l5), some (.int (l6 + Int32.ofInt (1)))]) dX8_sendOff_154 rfl rfl (by decide) rfl ?_
  refine st_goto (pc := 157) (tgt := 118) dX8_sendOff_157 (by decide) ?_
  exact hk118 _ _ _ _ _ _ _ hq
def D_X8_sendOff_118 (N : Nat) : Nat → mh_H → Nat → Int32 → Nat → Int32 → Int32 → Int32 → Option mh_H
  | 0, _, _, _, _, _, _, _ => none
  | F + 1, h, l0, l1, l2, l3, l5, l6 =>
    if (5 : Int32) ≤ l6 then (some h)
    else (if l5 < 0 then (some h)
    else ((gR h 8 l0 5).bind fun v1 =>
    (aI h v1 ((l1 * (5 : Int32)) + l6)).bind fun v2 =>
    if v2 ≤ 0 then (D_X8_sendOff_154 N (D_X8_sendOff_118 N F) h l0 l1 l2 l3 l5 l6)
    else (kO h 8 l0 <|
    (D_X8_sendGrains N h l0 l1 l6 l3 l5 l2).bind fun q3 =>
    D_X8_sendOff_154 N (D_X8_sendOff_118 N F) q3 l0 l1 l2 l3 l5 l6)))
set_option maxHeartbeats 4000000 in
set_option maxRecDepth 100000 in
theorem T_X8_sendOff_118 {P : mh_E → Prop} {N d : Nat} (hd : 5 ≤ d) {z : mh_H} : ∀ (F : Nat) (h : mh_H) (l0 : Nat) (l1 : Int32) (l2 : Nat) (l3 : Int32) (l5 : Int32) (l6 : Int32), D_X8_sendOff_118 N F h l0 l1 l2 l3 l5 l6 = some z → mh_go P d mX8_sendOff 118 [some (.ref l0), some (.int l1), some (.ref l2), some (.int l3), none, some (.int l5), some (.int l6)] [] h none z := by
  intro F
  induction F with
  | zero => intro h l0 l1 l2 l3 l5 l6 hq; rw [D_X8_sendOff_118] at hq; cases hq
  | succ F ih =>
    intro h l0 l1 l2 l3 l5 l6 hq
    rw [D_X8_sendOff_118] at hq
    refine st_iload (pc := 118) dX8_sendOff_118 rfl ?_
    refine st_iconst (pc := 120) (v := (5 : Int32)) dX8_sendOff_120 rfl ?_
    refine bd_icmp_ge (pc := 121) (tgt := 160) hq dX8_sendOff_121 (by decide) (fun _ hq => ?_) (fun _ hq => ?_)
    ·
      exact bd_vret (pc := 160) hq dX8_sendOff_160 rfl
    ·
      refine st_iload (pc := 124) dX8_sendOff_124 rfl ?_
      refine bd_if_lt (pc := 126) (tgt := 160) hq dX8_sendOff_126 (by decide) (fun _ hq => ?_) (fun _ hq => ?_)
      ·
        exact bd_vret (pc := 160) hq dX8_sendOff_160 rfl
      ·
        refine st_aload_n (pc := 129) dX8_sendOff_129 rfl ?_
        refine bd_getr (pc := 130) hq dX8_sendOff_130 fl_8_29_8 rfl (fun v1 hq => ?_)
        refine st_iload_n (pc := 133) dX8_sendOff_133 rfl ?_
        refine st_iconst (pc := 134) (v := (5 : Int32)) dX8_sendOff_134 rfl ?_
        refine st_imul (pc := 135) dX8_sendOff_135 ?_
        refine st_iload (pc := 136) dX8_sendOff_136 rfl ?_
        refine st_iadd (pc := 138) dX8_sendOff_138 ?_
        refine bd_iald (pc := 139) hq dX8_sendOff_139 (fun v2 hq => ?_)
        refine bd_if_le (pc := 140) (tgt := 154) hq dX8_sendOff_140 (by decide) (fun _ hq => ?_) (fun _ hq => ?_)
        ·
          exact T_X8_sendOff_154 hd ih hq
        ·
          refine st_aload_n (pc := 143) dX8_sendOff_143 rfl ?_
          refine st_iload_n (pc := 144) dX8_sendOff_144 rfl ?_
          refine st_iload (pc := 145) dX8_sendOff_145 rfl ?_
          refine st_iload_n (pc := 147) dX8_sendOff_147 rfl ?_
          refine st_iload (pc := 148) dX8_sendOff_148 rfl ?_
          refine st_aload_n (pc := 150) dX8_sendOff_150 rfl ?_
          obtain ⟨⟨hbq3, hkq3⟩, hq⟩ := mh_oi hq
          obtain ⟨q3, e3, hq⟩ := mh_ob hq
          refine st_invV (pc := 151) (ci := 8) (vs := [.int l1, .int l6, .int l3, .int l5, .ref l2]) (rest := []) (st2 := []) dX8_sendOff_151 okX8_sendGrains (by decide) hkq3 hbq3 wd_697 wd_699 wp_17 pdX8_sendGrains rfl rfl rfl rfl (Nat.le_trans (by decide) hd) (Nat.le_of_ble_eq_true rfl) (T_X8_sendGrains (Nat.le_refl _) e3) rfl ?_
          exact T_X8_sendOff_154 hd ih hq
def D_X8_sendOff_24 (N : Nat) : Nat → mh_H → Nat → Int32 → Nat → Int32 → Int32 → Int32 → Int32 → Option mh_H
  | 0, _, _, _, _, _, _, _, _ => none
  | F + 1, h, l0, l1, l2, l3, l4, l5, l6 =>
    (gI h 10 l2 1).bind fun v1 =>
    if v1 ≤ l6 then ((gR h 8 l0 5).bind fun v2 =>
    (uI h v2 (l1 * (5 : Int32)) l4).bind fun h3 =>
    D_X8_sendOff_118 N N h3 l0 l1 l2 l3 l5 (1 : Int32))
    else ((gR h 10 l2 6).bind fun v2 =>
    (aR h v2 l6).bind fun v3 =>
    (gW h v3 0).bind fun v4 =>
    if v4 = l1 then ((gR h 10 l2 6).bind fun v5 =>
    (aR h v5 l6).bind fun v6 =>
    (gR h 8 l0 11).bind fun v7 =>
    (aI h v7 l6).bind fun v8 =>
    kO h 8 l0 <|
    (D_X8_enter N h l0 l6 v6 (0 : Int32) v8).bind fun q9 =>
    if l5 < 0 then (D_X8_sendOff_90 N (D_X8_sendOff_24 N F) q9 l0 l1 l2 l3 l4 l6)
    else ((gR q9 8 l0 11).bind fun v10 =>
    (aI q9 v10 l6).bind fun v11 =>
    (gR q9 8 l0 11).bind fun v12 =>
    (aI q9 v12 l5).bind fun v13 =>
    if v11 ≤ v13 then (D_X8_sendOff_97 N (D_X8_sendOff_24 N F) q9 l0 l1 l2 l3 l4 l6 l5)
    else (D_X8_sendOff_90 N (D_X8_sendOff_24 N F) q9 l0 l1 l2 l3 l4 l6)))
    else (D_X8_sendOff_99 N (D_X8_sendOff_24 N F) h l0 l1 l2 l3 l4 l5 l6))
set_option maxHeartbeats 4000000 in
set_option maxRecDepth 100000 in
theorem T_X8_sendOff_24 {P : mh_E → Prop} {N d : Nat} (hd : 5 ≤ d) {z : mh_H} : ∀ (F : Nat) (h : mh_H) (l0 : Nat) (l1 : Int32) (l2 : Nat) (l3 : Int32) (l4 : Int32) (l5 : Int32) (l6 : Int32), D_X8_sendOff_24 N F h l0 l1 l2 l3 l4 l5 l6 = some z → mh_go P d mX8_sendOff 24 [some (.ref l0), some (.int l1), some (.ref l2), some (.int l3), some (.int l4), some (.int l5), some (.int l6)] [] h none z := by
  intro F
  induction F with
  | zero => intro h l0 l1 l2 l3 l4 l5 l6 hq; rw [D_X8_sendOff_24] at hq; cases hq
  | succ F ih =>
    intro h l0 l1 l2 l3 l4 l5 l6 hq
    rw [D_X8_sendOff_24] at hq
    refine st_iload (pc := 24) dX8_sendOff_24 rfl ?_
    refine st_aload_n (pc := 26) dX8_sendOff_26 rfl ?_
    refine bd_geti (pc := 27) hq dX8_sendOff_27 fl_8_60_10 rfl (fun v1 hq => ?_)
    refine bd_icmp_ge (pc := 30) (tgt := 105) hq dX8_sendOff_30 (by decide) (fun _ hq => ?_) (fun _ hq => ?_)
    ·
      refine st_aload_n (pc := 105) dX8_sendOff_105 rfl ?_
      refine bd_getr (pc := 106) hq dX8_sendOff_106 fl_8_29_8 rfl (fun v2 hq => ?_)
      refine st_iload_n (pc := 109) dX8_sendOff_109 rfl ?_
      refine st_iconst (pc := 110) (v := (5 : Int32)) dX8_sendOff_110 rfl ?_
      refine st_imul (pc := 111) dX8_sendOff_111 ?_
      refine st_iload (pc := 112) dX8_sendOff_112 rfl ?_
      refine bd_iast (pc := 114) hq dX8_sendOff_114 (fun h3 hq => ?_)
      refine st_iconst (pc := 115) (v := (1 : Int32)) dX8_sendOff_115 rfl ?_
      refine st_istore (pc := 116) (lv' := [some (.ref l0), some (.int l1), some (.ref l2), some (.int l3), some (.int l4), some (.int l5), some (.int (1 : Int32))]) dX8_sendOff_116 rfl (by decide) rfl ?_
      refine st_lesS (lv' := [some (.ref l0), some (.int l1), some (.ref l2), some (.int l3), none, some (.int l5), some (.int (1 : Int32))]) ⟨Or.inr rfl, Or.inr rfl, Or.inr rfl, Or.inr rfl, Or.inl rfl, Or.inr rfl, Or.inr rfl, trivial⟩ ?_
      exact T_X8_sendOff_118 hd N _ _ _ _ _ _ _ hq
    ·
      refine st_aload_n (pc := 33) dX8_sendOff_33 rfl ?_
      refine bd_getr (pc := 34) hq dX8_sendOff_34 fl_8_65_10 rfl (fun v2 hq => ?_)
      refine st_iload (pc := 37) dX8_sendOff_37 rfl ?_
      refine bd_aald (pc := 39) hq dX8_sendOff_39 (fun v3 hq => ?_)
      refine bd_getw (pc := 40) hq dX8_sendOff_40 flw_8_128 (by decide) (fun v4 hq => ?_)
      refine st_iload_n (pc := 43) dX8_sendOff_43 rfl ?_
      refine bd_icmp_ne (pc := 44) (tgt := 99) hq dX8_sendOff_44 (by decide) (fun _ hq => ?_) (fun _ hq => ?_)
      ·
        refine st_aload_n (pc := 47) dX8_sendOff_47 rfl ?_
        refine st_iload (pc := 48) dX8_sendOff_48 rfl ?_
        refine st_aload_n (pc := 50) dX8_sendOff_50 rfl ?_
        refine bd_getr (pc := 51) hq dX8_sendOff_51 fl_8_65_10 rfl (fun v5 hq => ?_)
        refine st_iload (pc := 54) dX8_sendOff_54 rfl ?_
        refine bd_aald (pc := 56) hq dX8_sendOff_56 (fun v6 hq => ?_)
        refine st_iconst (pc := 57) (v := (0 : Int32)) dX8_sendOff_57 rfl ?_
        refine st_aload_n (pc := 58) dX8_sendOff_58 rfl ?_
        refine bd_getr (pc := 59) hq dX8_sendOff_59 fl_8_47_8 rfl (fun v7 hq => ?_)
        refine st_iload (pc := 62) dX8_sendOff_62 rfl ?_
        refine bd_iald (pc := 64) hq dX8_sendOff_64 (fun v8 hq => ?_)
        obtain ⟨⟨hbq9, hkq9⟩, hq⟩ := mh_oi hq
        obtain ⟨q9, e9, hq⟩ := mh_ob hq
        refine st_invV (pc := 65) (ci := 8) (vs := [.int l6, .ref v6, .int (0 : Int32), .int v8]) (rest := []) (st2 := []) dX8_sendOff_65 okX8_enter (by decide) hkq9 hbq9 wd_679 wd_681 wp_16 pdX8_enter rfl rfl rfl rfl (Nat.le_trans (by decide) hd) (Nat.le_of_ble_eq_true rfl) (T_X8_enter (Nat.le_refl _) e9) rfl ?_
        refine st_iload (pc := 68) dX8_sendOff_68 rfl ?_
        refine bd_if_lt (pc := 70) (tgt := 90) hq dX8_sendOff_70 (by decide) (fun _ hq => ?_) (fun _ hq => ?_)
        ·
          refine st_lesS (lv' := [some (.ref l0), some (.int l1), some (.ref l2), some (.int l3), some (.int l4), none, some (.int l6)]) ⟨Or.inr rfl, Or.inr rfl, Or.inr rfl, Or.inr rfl, Or.inr rfl, Or.inl rfl, Or.inr rfl, trivial⟩ ?_
          exact T_X8_sendOff_90 hd ih hq
        ·
          refine st_aload_n (pc := 73) dX8_sendOff_73 rfl ?_
          refine bd_getr (pc := 74) hq dX8_sendOff_74 fl_8_47_8 rfl (fun v10 hq => ?_)
          refine st_iload (pc := 77) dX8_sendOff_77 rfl ?_
          refine bd_iald (pc := 79) hq dX8_sendOff_79 (fun v11 hq => ?_)
          refine st_aload_n (pc := 80) dX8_sendOff_80 rfl ?_
          refine bd_getr (pc := 81) hq dX8_sendOff_81 fl_8_47_8 rfl (fun v12 hq => ?_)
          refine st_iload (pc := 84) dX8_sendOff_84 rfl ?_
          refine bd_iald (pc := 86) hq dX8_sendOff_86 (fun v13 hq => ?_)
          refine bd_icmp_le (pc := 87) (tgt := 95) hq dX8_sendOff_87 (by decide) (fun _ hq => ?_) (fun _ hq => ?_)
          ·
            refine st_iload (pc := 95) dX8_sendOff_95 rfl ?_
            refine st_lesS (lv' := [some (.ref l0), some (.int l1), some (.ref l2), some (.int l3), some (.int l4), none, some (.int l6)]) ⟨Or.inr rfl, Or.inr rfl, Or.inr rfl, Or.inr rfl, Or.inr rfl, Or.inl rfl, Or.inr rfl, trivial⟩ ?_
            exact T_X8_sendOff_97 hd ih hq
          ·
            refine st_lesS (lv' := [some (.ref l0), some (.int l1), some (.ref l2), some (.int l3), some (.int l4), none, some (.int l6)]) ⟨Or.inr rfl, Or.inr rfl, Or.inr rfl, Or.inr rfl, Or.inr rfl, Or.inl rfl, Or.inr rfl, trivial⟩ ?_
            exact T_X8_sendOff_90 hd ih hq
      ·
        exact T_X8_sendOff_99 hd ih hq
def D_X8_sendOff (N : Nat) (h : mh_H) (l0 : Nat) (l1 : Int32) (l2 : Nat) : Option mh_H :=
  (gR h 8 l0 5).bind fun v1 =>
  (aI h v1 (l1 * (5 : Int32))).bind fun v2 =>
  kO h 8 l0 <|
  (D_X8_shareOut N h l0 l1 v2 l2).bind fun q3 =>
  D_X8_sendOff_24 N N q3.2 l0 l1 l2 v2 q3.1 (-1 : Int32) (0 : Int32)
set_option maxHeartbeats 4000000 in
set_option maxRecDepth 100000 in
theorem T_X8_sendOff {P : mh_E → Prop} {N d : Nat} (hd : 5 ≤ d) {z : mh_H} {h : mh_H} {l0 : Nat} {l1 : Int32} {l2 : Nat} (hq : D_X8_sendOff N h l0 l1 l2 = some z) : mh_go P d mX8_sendOff 0 [some (.ref l0), some (.int l1), some (.ref l2), none, none, none, none] [] h none z := by
  unfold D_X8_sendOff at hq
  refine st_aload_n (pc := 0) dX8_sendOff_0 rfl ?_
  refine bd_getr (pc := 1) hq dX8_sendOff_1 fl_8_29_8 rfl (fun v1 hq => ?_)
  refine st_iload_n (pc := 4) dX8_sendOff_4 rfl ?_
  refine st_iconst (pc := 5) (v := (5 : Int32)) dX8_sendOff_5 rfl ?_
  refine st_imul (pc := 6) dX8_sendOff_6 ?_
  refine bd_iald (pc := 7) hq dX8_sendOff_7 (fun v2 hq => ?_)
  refine st_istore_n (pc := 8) (lv' := [some (.ref l0), some (.int l1), some (.ref l2), some (.int v2), none, none, none]) dX8_sendOff_8 rfl (by decide) rfl ?_
  refine st_aload_n (pc := 9) dX8_sendOff_9 rfl ?_
  refine st_iload_n (pc := 10) dX8_sendOff_10 rfl ?_
  refine st_iload_n (pc := 11) dX8_sendOff_11 rfl ?_
  refine st_aload_n (pc := 12) dX8_sendOff_12 rfl ?_
  obtain ⟨⟨hbq3, hkq3⟩, hq⟩ := mh_oi hq
  obtain ⟨q3, e3, hq⟩ := mh_ob hq
  refine st_invV (pc := 13) (ci := 8) (vs := [.int l1, .int v2, .ref l2]) (rest := []) (st2 := [.int q3.1]) dX8_sendOff_13 okX8_shareOut (by decide) hkq3 hbq3 wd_672 wd_674 wp_15 pdX8_shareOut rfl rfl rfl rfl (Nat.le_trans (by decide) hd) (Nat.le_of_ble_eq_true rfl) (T_X8_shareOut (Nat.le_refl _) e3) rfl ?_
  refine st_istore (pc := 16) (lv' := [some (.ref l0), some (.int l1), some (.ref l2), some (.int v2), some (.int q3.1), none, none]) dX8_sendOff_16 rfl (by decide) rfl ?_
  refine st_iconst (pc := 18) (v := (-1 : Int32)) dX8_sendOff_18 rfl ?_
  refine st_istore (pc := 19) (lv' := [some (.ref l0), some (.int l1), some (.ref l2), some (.int v2), some (.int q3.1), some (.int (-1 : Int32)), none]) dX8_sendOff_19 rfl (by decide) rfl ?_
  refine st_iconst (pc := 21) (v := (0 : Int32)) dX8_sendOff_21 rfl ?_
  refine st_istore (pc := 22) (lv' := [some (.ref l0), some (.int l1), some (.ref l2), some (.int v2), some (.int q3.1), some (.int (-1 : Int32)), some (.int (0 : Int32))]) dX8_sendOff_22 rfl (by decide) rfl ?_
  exact T_X8_sendOff_24 hd N _ _ _ _ _ _ _ _ hq
-- HoleWater.held(III)I
theorem dX11_held_0 : decode cX11_held 0 = .ok (.iload_n 1, 1) := by decide +kernel
theorem dX11_held_1 : decode cX11_held 1 = .ok (.iload_n 2, 1) := by decide +kernel
theorem dX11_held_2 : decode cX11_held 2 = .ok (.iload_n 0, 1) := by decide +kernel
theorem dX11_held_3 : decode cX11_held 3 = .ok (.invokestatic 374, 3) := by decide +kernel
theorem dX11_held_6 : decode cX11_held 6 = .ok (.invokestatic 379, 3) := by decide +kernel
theorem dX11_held_9 : decode cX11_held 9 = .ok (.ireturn, 1) := by decide +kernel
def D_X11_held (N : Nat) (h : mh_H) (l0 : Int32) (l1 : Int32) (l2 : Int32) : Option (Int32 × mh_H) :=
  some (mh_max l1 (mh_min l2 l0), h)
set_option maxHeartbeats 4000000 in
set_option maxRecDepth 100000 in
theorem T_X11_held {P : mh_E → Prop} {N d : Nat} (hd : 1 ≤ d) {z : (Int32 × mh_H)} {h : mh_H} {l0 : Int32} {l1 : Int32} {l2 : Int32} (hq : D_X11_held N h l0 l1 l2 = some z) : mh_go P d mX11_held 0 [some (.int l0), some (.int l1), some (.int l2)] [] h (some (.int z.1)) z.2 := by
  unfold D_X11_held at hq
  refine st_iload_n (pc := 0) dX11_held_0 rfl ?_
  refine st_iload_n (pc := 1) dX11_held_1 rfl ?_
  refine st_iload_n (pc := 2) dX11_held_2 rfl ?_
  refine st_mmin (pc := 3) dX11_held_3 wd_661 (Nat.le_trans (by decide) hd) (Nat.le_of_ble_eq_true rfl) ?_
  refine st_mmax (pc := 6) dX11_held_6 wd_662 (Nat.le_trans (by decide) hd) (Nat.le_of_ble_eq_true rfl) ?_
  exact bd_iret (pc := 9) hq dX11_held_9 rfl
-- HoleWater$Reader.begin(LHoleWater$Row;Ljava/lang/String;)V
theorem dX5_begin_0 : decode cX5_begin 0 = .ok (.aload_n 0, 1) := by decide +kernel
theorem dX5_begin_1 : decode cX5_begin 1 = .ok (.aload_n 1, 1) := by decide +kernel
theorem dX5_begin_2 : decode cX5_begin 2 = .ok (.getfield 51, 3) := by decide +kernel
theorem dX5_begin_5 : decode cX5_begin 5 = .ok (.putfield 15, 3) := by decide +kernel
theorem dX5_begin_8 : decode cX5_begin 8 = .ok (.aload_n 0, 1) := by decide +kernel
theorem dX5_begin_9 : decode cX5_begin 9 = .ok (.aload_n 1, 1) := by decide +kernel
theorem dX5_begin_10 : decode cX5_begin 10 = .ok (.getfield 56, 3) := by decide +kernel
theorem dX5_begin_13 : decode cX5_begin 13 = .ok (.aload_n 1, 1) := by decide +kernel
theorem dX5_begin_14 : decode cX5_begin 14 = .ok (.getfield 51, 3) := by decide +kernel
theorem dX5_begin_17 : decode cX5_begin 17 = .ok (.arraylength, 1) := by decide +kernel
theorem dX5_begin_18 : decode cX5_begin 18 = .ok (.invokestatic 57, 3) := by decide +kernel
theorem dX5_begin_21 : decode cX5_begin 21 = .ok (.putfield 18, 3) := by decide +kernel
theorem dX5_begin_24 : decode cX5_begin 24 = .ok (.aload_n 0, 1) := by decide +kernel
theorem dX5_begin_25 : decode cX5_begin 25 = .ok (.aload_n 2, 1) := by decide +kernel
theorem dX5_begin_26 : decode cX5_begin 26 = .ok (.putfield 24, 3) := by decide +kernel
theorem dX5_begin_29 : decode cX5_begin 29 = .ok (.aload_n 0, 1) := by decide +kernel
theorem dX5_begin_30 : decode cX5_begin 30 = .ok (.iconst 0, 1) := by decide +kernel
theorem dX5_begin_31 : decode cX5_begin 31 = .ok (.putfield 28, 3) := by decide +kernel
theorem dX5_begin_34 : decode cX5_begin 34 = .ok (.aload_n 0, 1) := by decide +kernel
theorem dX5_begin_35 : decode cX5_begin 35 = .ok (.iconst 0, 1) := by decide +kernel
theorem dX5_begin_36 : decode cX5_begin 36 = .ok (.putfield 31, 3) := by decide +kernel
theorem dX5_begin_39 : decode cX5_begin 39 = .ok (.return_, 1) := by decide +kernel
def D_X5_begin (N : Nat) (h : mh_H) (l0 : Nat) (l1 : Nat) (l2 : Nat) : Option mh_H :=
  (gR h 6 l1 0).bind fun v1 =>
  (pR h 5 l0 1 v1).bind fun h2 =>
  (gI h2 6 l1 1).bind fun v3 =>
  (gR h2 6 l1 0).bind fun v4 =>
  (aL h2 v4).bind fun v5 =>
  (pI h2 5 l0 2 (mh_min v3 v5)).bind fun h6 =>
  (pR h6 5 l0 3 l2).bind fun h7 =>
  (pI h7 5 l0 4 (0 : Int32)).bind fun h8 =>
  (pB h8 5 l0 5 (0 : Int32)).bind fun h9 =>
  some h9
set_option maxHeartbeats 4000000 in
set_option maxRecDepth 100000 in
theorem T_X5_begin {P : mh_E → Prop} {N d : Nat} (hd : 1 ≤ d) {z : mh_H} {h : mh_H} {l0 : Nat} {l1 : Nat} {l2 : Nat} (hq : D_X5_begin N h l0 l1 l2 = some z) : mh_go P d mX5_begin 0 [some (.ref l0), some (.ref l1), some (.ref l2)] [] h none z := by
  unfold D_X5_begin at hq
  refine st_aload_n (pc := 0) dX5_begin_0 rfl ?_
  refine st_aload_n (pc := 1) dX5_begin_1 rfl ?_
  refine bd_getr (pc := 2) hq dX5_begin_2 fl_5_51_6 rfl (fun v1 hq => ?_)
  refine bd_putr (pc := 5) hq dX5_begin_5 fl_5_15_5 (Or.inl rfl) rfl (Or.inr ⟨_, rfl⟩) (fun h2 hq => ?_)
  refine st_aload_n (pc := 8) dX5_begin_8 rfl ?_
  refine st_aload_n (pc := 9) dX5_begin_9 rfl ?_
  refine bd_geti (pc := 10) hq dX5_begin_10 fl_5_56_6 rfl (fun v3 hq => ?_)
  refine st_aload_n (pc := 13) dX5_begin_13 rfl ?_
  refine bd_getr (pc := 14) hq dX5_begin_14 fl_5_51_6 rfl (fun v4 hq => ?_)
  refine bd_alen (pc := 17) hq dX5_begin_17 (fun v5 hq => ?_)
  refine st_mmin (pc := 18) dX5_begin_18 wd_543 (Nat.le_trans (by decide) hd) (Nat.le_of_ble_eq_true rfl) ?_
  refine bd_puti (pc := 21) hq dX5_begin_21 fl_5_18_5 (Or.inl rfl) rfl (fun h6 hq => ?_)
  refine st_aload_n (pc := 24) dX5_begin_24 rfl ?_
  refine st_aload_n (pc := 25) dX5_begin_25 rfl ?_
  refine bd_putr (pc := 26) hq dX5_begin_26 fl_5_24_5 (Or.inl rfl) rfl (Or.inl ⟨_, rfl⟩) (fun h7 hq => ?_)
  refine st_aload_n (pc := 29) dX5_begin_29 rfl ?_
  refine st_iconst (pc := 30) (v := (0 : Int32)) dX5_begin_30 rfl ?_
  refine bd_puti (pc := 31) hq dX5_begin_31 fl_5_28_5 (Or.inl rfl) rfl (fun h8 hq => ?_)
  refine st_aload_n (pc := 34) dX5_begin_34 rfl ?_
  refine st_iconst (pc := 35) (v := (0 : Int32)) dX5_begin_35 rfl ?_
  refine bd_putb (pc := 36) hq dX5_begin_36 fl_5_31_5 (Or.inl rfl) rfl (fun h9 hq => ?_)
  exact bd_vret (pc := 39) hq dX5_begin_39 rfl
-- HoleWater$Reader.next()I
theorem dX5_next_0 : decode cX5_next 0 = .ok (.aload_n 0, 1) := by decide +kernel
theorem dX5_next_1 : decode cX5_next 1 = .ok (.getfield 28, 3) := by decide +kernel
theorem dX5_next_4 : decode cX5_next 4 = .ok (.ifCond .lt 26, 3) := by decide +kernel
theorem dX5_next_30 : decode cX5_next 30 = .ok (.iconst (-1), 1) := by decide +kernel
theorem dX5_next_31 : decode cX5_next 31 = .ok (.ireturn, 1) := by decide +kernel
theorem dX5_next_7 : decode cX5_next 7 = .ok (.aload_n 0, 1) := by decide +kernel
theorem dX5_next_8 : decode cX5_next 8 = .ok (.getfield 28, 3) := by decide +kernel
theorem dX5_next_11 : decode cX5_next 11 = .ok (.aload_n 0, 1) := by decide +kernel
theorem dX5_next_12 : decode cX5_next 12 = .ok (.getfield 18, 3) := by decide +kernel
theorem dX5_next_15 : decode cX5_next 15 = .ok (.if_icmp .ge 15, 3) := by decide +kernel
theorem dX5_next_18 : decode cX5_next 18 = .ok (.aload_n 0, 1) := by decide +kernel
theorem dX5_next_19 : decode cX5_next 19 = .ok (.getfield 15, 3) := by decide +kernel
theorem dX5_next_22 : decode cX5_next 22 = .ok (.aload_n 0, 1) := by decide +kernel
theorem dX5_next_23 : decode cX5_next 23 = .ok (.getfield 28, 3) := by decide +kernel
theorem dX5_next_26 : decode cX5_next 26 = .ok (.iaload, 1) := by decide +kernel
theorem dX5_next_27 : decode cX5_next 27 = .ok (.goto 4, 3) := by decide +kernel
def D_X5_next (N : Nat) (h : mh_H) (l0 : Nat) : Option (Int32 × mh_H) :=
  (gI h 5 l0 4).bind fun v1 =>
  if v1 < 0 then (some ((-1 : Int32), h))
  else ((gI h 5 l0 4).bind fun v2 =>
  (gI h 5 l0 2).bind fun v3 =>
  if v3 ≤ v2 then (some ((-1 : Int32), h))
  else ((gR h 5 l0 1).bind fun v4 =>
  (gI h 5 l0 4).bind fun v5 =>
  (aI h v4 v5).bind fun v6 =>
  some (v6, h)))
set_option maxHeartbeats 4000000 in
set_option maxRecDepth 100000 in
theorem T_X5_next {P : mh_E → Prop} {N d : Nat} (hd : 1 ≤ d) {z : (Int32 × mh_H)} {h : mh_H} {l0 : Nat} (hq : D_X5_next N h l0 = some z) : mh_go P d mX5_next 0 [some (.ref l0)] [] h (some (.int z.1)) z.2 := by
  unfold D_X5_next at hq
  refine st_aload_n (pc := 0) dX5_next_0 rfl ?_
  refine bd_geti (pc := 1) hq dX5_next_1 fl_5_28_5 rfl (fun v1 hq => ?_)
  refine bd_if_lt (pc := 4) (tgt := 30) hq dX5_next_4 (by decide) (fun _ hq => ?_) (fun _ hq => ?_)
  ·
    refine st_iconst (pc := 30) (v := (-1 : Int32)) dX5_next_30 rfl ?_
    exact bd_iret (pc := 31) hq dX5_next_31 rfl
  ·
    refine st_aload_n (pc := 7) dX5_next_7 rfl ?_
    refine bd_geti (pc := 8) hq dX5_next_8 fl_5_28_5 rfl (fun v2 hq => ?_)
    refine st_aload_n (pc := 11) dX5_next_11 rfl ?_
    refine bd_geti (pc := 12) hq dX5_next_12 fl_5_18_5 rfl (fun v3 hq => ?_)
    refine bd_icmp_ge (pc := 15) (tgt := 30) hq dX5_next_15 (by decide) (fun _ hq => ?_) (fun _ hq => ?_)
    ·
      refine st_iconst (pc := 30) (v := (-1 : Int32)) dX5_next_30 rfl ?_
      exact bd_iret (pc := 31) hq dX5_next_31 rfl
    ·
      refine st_aload_n (pc := 18) dX5_next_18 rfl ?_
      refine bd_getr (pc := 19) hq dX5_next_19 fl_5_15_5 rfl (fun v4 hq => ?_)
      refine st_aload_n (pc := 22) dX5_next_22 rfl ?_
      refine bd_geti (pc := 23) hq dX5_next_23 fl_5_28_5 rfl (fun v5 hq => ?_)
      refine bd_iald (pc := 26) hq dX5_next_26 (fun v6 hq => ?_)
      refine st_goto (pc := 27) (tgt := 31) dX5_next_27 (by decide) ?_
      exact bd_iret (pc := 31) hq dX5_next_31 rfl
-- HoleWater$Reader.take(I)Z
theorem dX5_take_0 : decode cX5_take 0 = .ok (.aload_n 0, 1) := by decide +kernel
theorem dX5_take_1 : decode cX5_take 1 = .ok (.getfield 31, 3) := by decide +kernel
theorem dX5_take_4 : decode cX5_take 4 = .ok (.ifCond .ne 11, 3) := by decide +kernel
theorem dX5_take_7 : decode cX5_take 7 = .ok (.aload_n 0, 1) := by decide +kernel
theorem dX5_take_8 : decode cX5_take 8 = .ok (.invokevirtual 63, 3) := by decide +kernel
theorem dX5_take_11 : decode cX5_take 11 = .ok (.iload_n 1, 1) := by decide +kernel
theorem dX5_take_12 : decode cX5_take 12 = .ok (.if_icmp .eq 5, 3) := by decide +kernel
theorem dX5_take_17 : decode cX5_take 17 = .ok (.aload_n 0, 1) := by decide +kernel
theorem dX5_take_18 : decode cX5_take 18 = .ok (.dup, 1) := by decide +kernel
theorem dX5_take_19 : decode cX5_take 19 = .ok (.getfield 28, 3) := by decide +kernel
theorem dX5_take_22 : decode cX5_take 22 = .ok (.iconst 1, 1) := by decide +kernel
theorem dX5_take_23 : decode cX5_take 23 = .ok (.iadd, 1) := by decide +kernel
theorem dX5_take_24 : decode cX5_take 24 = .ok (.putfield 28, 3) := by decide +kernel
theorem dX5_take_27 : decode cX5_take 27 = .ok (.iconst 1, 1) := by decide +kernel
theorem dX5_take_28 : decode cX5_take 28 = .ok (.ireturn, 1) := by decide +kernel
theorem dX5_take_15 : decode cX5_take 15 = .ok (.iconst 0, 1) := by decide +kernel
theorem dX5_take_16 : decode cX5_take 16 = .ok (.ireturn, 1) := by decide +kernel
def D_X5_take (N : Nat) (h : mh_H) (l0 : Nat) (l1 : Int32) : Option (Int32 × mh_H) :=
  (gI h 5 l0 5).bind fun v1 =>
  if v1 = 0 then (kO h 5 l0 <|
  (D_X5_next N h l0).bind fun q2 =>
  if q2.1 = l1 then ((gI q2.2 5 l0 4).bind fun v3 =>
  (pI q2.2 5 l0 4 (v3 + (1 : Int32))).bind fun h4 =>
  zB (1 : Int32) h4)
  else (zB (0 : Int32) q2.2))
  else (zB (0 : Int32) h)
set_option maxHeartbeats 4000000 in
set_option maxRecDepth 100000 in
theorem T_X5_take {P : mh_E → Prop} {N d : Nat} (hd : 2 ≤ d) {z : (Int32 × mh_H)} {h : mh_H} {l0 : Nat} {l1 : Int32} (hq : D_X5_take N h l0 l1 = some z) : mh_go P d mX5_take 0 [some (.ref l0), some (.int l1)] [] h (some (.int z.1)) z.2 := by
  unfold D_X5_take at hq
  refine st_aload_n (pc := 0) dX5_take_0 rfl ?_
  refine bd_geti (pc := 1) hq dX5_take_1 fl_5_31_5 rfl (fun v1 hq => ?_)
  refine bd_if_ne (pc := 4) (tgt := 15) hq dX5_take_4 (by decide) (fun _ hq => ?_) (fun _ hq => ?_)
  ·
    refine st_aload_n (pc := 7) dX5_take_7 rfl ?_
    obtain ⟨⟨hbq2, hkq2⟩, hq⟩ := mh_oi hq
    obtain ⟨q2, e2, hq⟩ := mh_ob hq
    refine st_invV (pc := 8) (ci := 5) (vs := []) (rest := []) (st2 := [.int q2.1]) dX5_take_8 okX5_next (by decide) hkq2 hbq2 wd_556 wd_558 wp_9 pdX5_next rfl rfl rfl rfl (Nat.le_trans (by decide) hd) (Nat.le_of_ble_eq_true rfl) (T_X5_next (Nat.le_refl _) e2) rfl ?_
    refine st_iload_n (pc := 11) dX5_take_11 rfl ?_
    refine bd_icmp_eq (pc := 12) (tgt := 17) hq dX5_take_12 (by decide) (fun _ hq => ?_) (fun _ hq => ?_)
    ·
      refine st_aload_n (pc := 17) dX5_take_17 rfl ?_
      refine st_dup (pc := 18) dX5_take_18 rfl ?_
      refine bd_geti (pc := 19) hq dX5_take_19 fl_5_28_5 rfl (fun v3 hq => ?_)
      refine st_iconst (pc := 22) (v := (1 : Int32)) dX5_take_22 rfl ?_
      refine st_iadd (pc := 23) dX5_take_23 ?_
      refine bd_puti (pc := 24) hq dX5_take_24 fl_5_28_5 (Or.inl rfl) rfl (fun h4 hq => ?_)
      refine st_iconst (pc := 27) (v := (1 : Int32)) dX5_take_27 rfl ?_
      exact bd_zret (pc := 28) hq dX5_take_28 rfl
    ·
      refine st_iconst (pc := 15) (v := (0 : Int32)) dX5_take_15 rfl ?_
      exact bd_zret (pc := 16) hq dX5_take_16 rfl
  ·
    refine st_iconst (pc := 15) (v := (0 : Int32)) dX5_take_15 rfl ?_
    exact bd_zret (pc := 16) hq dX5_take_16 rfl
-- HoleWater$Reader.isDigit(I)Z
theorem dX5_isDigit_0 : decode cX5_isDigit 0 = .ok (.iload_n 0, 1) := by decide +kernel
theorem dX5_isDigit_1 : decode cX5_isDigit 1 = .ok (.bipush 48, 2) := by decide +kernel
theorem dX5_isDigit_3 : decode cX5_isDigit 3 = .ok (.if_icmp .lt 13, 3) := by decide +kernel
theorem dX5_isDigit_16 : decode cX5_isDigit 16 = .ok (.iconst 0, 1) := by decide +kernel
theorem dX5_isDigit_17 : decode cX5_isDigit 17 = .ok (.ireturn, 1) := by decide +kernel
theorem dX5_isDigit_6 : decode cX5_isDigit 6 = .ok (.iload_n 0, 1) := by decide +kernel
theorem dX5_isDigit_7 : decode cX5_isDigit 7 = .ok (.bipush 57, 2) := by decide +kernel
theorem dX5_isDigit_9 : decode cX5_isDigit 9 = .ok (.if_icmp .gt 7, 3) := by decide +kernel
theorem dX5_isDigit_12 : decode cX5_isDigit 12 = .ok (.iconst 1, 1) := by decide +kernel
theorem dX5_isDigit_13 : decode cX5_isDigit 13 = .ok (.goto 4, 3) := by decide +kernel
def D_X5_isDigit (N : Nat) (h : mh_H) (l0 : Int32) : Option (Int32 × mh_H) :=
  if l0 < (48 : Int32) then (zB (0 : Int32) h)
  else (if (57 : Int32) < l0 then (zB (0 : Int32) h)
  else (zB (1 : Int32) h))
set_option maxHeartbeats 4000000 in
set_option maxRecDepth 100000 in
theorem T_X5_isDigit {P : mh_E → Prop} {N d : Nat} (hd : 1 ≤ d) {z : (Int32 × mh_H)} {h : mh_H} {l0 : Int32} (hq : D_X5_isDigit N h l0 = some z) : mh_go P d mX5_isDigit 0 [some (.int l0)] [] h (some (.int z.1)) z.2 := by
  unfold D_X5_isDigit at hq
  refine st_iload_n (pc := 0) dX5_isDigit_0 rfl ?_
  refine st_bipush (pc := 1) (v := (48 : Int32)) dX5_isDigit_1 (by decide) ?_
  refine bd_icmp_lt (pc := 3) (tgt := 16) hq dX5_isDigit_3 (by decide) (fun _ hq => ?_) (fun _ hq => ?_)
  ·
    refine st_iconst (pc := 16) (v := (0 : Int32)) dX5_isDigit_16 rfl ?_
    exact bd_zret (pc := 17) hq dX5_isDigit_17 rfl
  ·
    refine st_iload_n (pc := 6) dX5_isDigit_6 rfl ?_
    refine st_bipush (pc := 7) (v := (57 : Int32)) dX5_isDigit_7 (by decide) ?_
    refine bd_icmp_gt (pc := 9) (tgt := 16) hq dX5_isDigit_9 (by decide) (fun _ hq => ?_) (fun _ hq => ?_)
    ·
      refine st_iconst (pc := 16) (v := (0 : Int32)) dX5_isDigit_16 rfl ?_
      exact bd_zret (pc := 17) hq dX5_isDigit_17 rfl
    ·
      refine st_iconst (pc := 12) (v := (1 : Int32)) dX5_isDigit_12 rfl ?_
      refine st_goto (pc := 13) (tgt := 17) dX5_isDigit_13 (by decide) ?_
      exact bd_zret (pc := 17) hq dX5_isDigit_17 rfl
-- HoleWater$Reader.number()I
theorem dX5_number_4 : decode cX5_number 4 = .ok (.iload_n 2, 1) := by decide +kernel
theorem dX5_number_5 : decode cX5_number 5 = .ok (.iconst 3, 1) := by decide +kernel
theorem dX5_number_6 : decode cX5_number 6 = .ok (.if_icmp .ge 42, 3) := by decide +kernel
theorem dX5_number_48 : decode cX5_number 48 = .ok (.iload_n 1, 1) := by decide +kernel
theorem dX5_number_49 : decode cX5_number 49 = .ok (.ireturn, 1) := by decide +kernel
theorem dX5_number_9 : decode cX5_number 9 = .ok (.aload_n 0, 1) := by decide +kernel
theorem dX5_number_10 : decode cX5_number 10 = .ok (.invokevirtual 63, 3) := by decide +kernel
theorem dX5_number_13 : decode cX5_number 13 = .ok (.invokestatic 76, 3) := by decide +kernel
theorem dX5_number_16 : decode cX5_number 16 = .ok (.ifCond .eq 32, 3) := by decide +kernel
theorem dX5_number_19 : decode cX5_number 19 = .ok (.iload_n 1, 1) := by decide +kernel
theorem dX5_number_20 : decode cX5_number 20 = .ok (.bipush 10, 2) := by decide +kernel
theorem dX5_number_22 : decode cX5_number 22 = .ok (.imul, 1) := by decide +kernel
theorem dX5_number_23 : decode cX5_number 23 = .ok (.aload_n 0, 1) := by decide +kernel
theorem dX5_number_24 : decode cX5_number 24 = .ok (.invokevirtual 63, 3) := by decide +kernel
theorem dX5_number_27 : decode cX5_number 27 = .ok (.iadd, 1) := by decide +kernel
theorem dX5_number_28 : decode cX5_number 28 = .ok (.bipush 48, 2) := by decide +kernel
theorem dX5_number_30 : decode cX5_number 30 = .ok (.isub, 1) := by decide +kernel
theorem dX5_number_31 : decode cX5_number 31 = .ok (.istore_n 1, 1) := by decide +kernel
theorem dX5_number_32 : decode cX5_number 32 = .ok (.aload_n 0, 1) := by decide +kernel
theorem dX5_number_33 : decode cX5_number 33 = .ok (.dup, 1) := by decide +kernel
theorem dX5_number_34 : decode cX5_number 34 = .ok (.getfield 28, 3) := by decide +kernel
theorem dX5_number_37 : decode cX5_number 37 = .ok (.iconst 1, 1) := by decide +kernel
theorem dX5_number_38 : decode cX5_number 38 = .ok (.iadd, 1) := by decide +kernel
theorem dX5_number_39 : decode cX5_number 39 = .ok (.putfield 28, 3) := by decide +kernel
theorem dX5_number_42 : decode cX5_number 42 = .ok (.iinc 2 1, 3) := by decide +kernel
theorem dX5_number_45 : decode cX5_number 45 = .ok (.goto (-41), 3) := by decide +kernel
theorem dX5_number_0 : decode cX5_number 0 = .ok (.iconst 0, 1) := by decide +kernel
theorem dX5_number_1 : decode cX5_number 1 = .ok (.istore_n 1, 1) := by decide +kernel
theorem dX5_number_2 : decode cX5_number 2 = .ok (.iconst 0, 1) := by decide +kernel
theorem dX5_number_3 : decode cX5_number 3 = .ok (.istore_n 2, 1) := by decide +kernel
def D_X5_number_4 (N : Nat) : Nat → mh_H → Nat → Int32 → Int32 → Option (Int32 × mh_H)
  | 0, _, _, _, _ => none
  | F + 1, h, l0, l1, l2 =>
    if (3 : Int32) ≤ l2 then (some (l1, h))
    else (kO h 5 l0 <|
    (D_X5_next N h l0).bind fun q1 =>
    (D_X5_isDigit N q1.2 q1.1).bind fun q2 =>
    if q2.1 = 0 then (some (l1, q2.2))
    else (kO q2.2 5 l0 <|
    (D_X5_next N q2.2 l0).bind fun q3 =>
    mh_let (((l1 * (10 : Int32)) + q3.1) - (48 : Int32)) fun v4 =>
    (gI q3.2 5 l0 4).bind fun v5 =>
    (pI q3.2 5 l0 4 (v5 + (1 : Int32))).bind fun h6 =>
    (D_X5_number_4 N F) h6 l0 v4 (l2 + Int32.ofInt (1))))
set_option maxHeartbeats 4000000 in
set_option maxRecDepth 100000 in
theorem T_X5_number_4 {P : mh_E → Prop} {N d : Nat} (hd : 2 ≤ d) {z : (Int32 × mh_H)} : ∀ (F : Nat) (h : mh_H) (l0 : Nat) (l1 : Int32) (l2 : Int32), D_X5_number_4 N F h l0 l1 l2 = some z → mh_go P d mX5_number 4 [some (.ref l0), some (.int l1), some (.int l2)] [] h (some (.int z.1)) z.2 := by
  intro F
  induction F with
  | zero => intro h l0 l1 l2 hq; rw [D_X5_number_4] at hq; cases hq
  | succ F ih =>
    intro h l0 l1 l2 hq
    rw [D_X5_number_4] at hq
    refine st_iload_n (pc := 4) dX5_number_4 rfl ?_
    refine st_iconst (pc := 5) (v := (3 : Int32)) dX5_number_5 rfl ?_
    refine bd_icmp_ge (pc := 6) (tgt := 48) hq dX5_number_6 (by decide) (fun _ hq => ?_) (fun _ hq => ?_)
    ·
      refine st_iload_n (pc := 48) dX5_number_48 rfl ?_
      exact bd_iret (pc := 49) hq dX5_number_49 rfl
    ·
      refine st_aload_n (pc := 9) dX5_number_9 rfl ?_
      obtain ⟨⟨hbq1, hkq1⟩, hq⟩ := mh_oi hq
      obtain ⟨q1, e1, hq⟩ := mh_ob hq
      refine st_invV (pc := 10) (ci := 5) (vs := []) (rest := []) (st2 := [.int q1.1]) dX5_number_10 okX5_next (by decide) hkq1 hbq1 wd_556 wd_558 wp_9 pdX5_next rfl rfl rfl rfl (Nat.le_trans (by decide) hd) (Nat.le_of_ble_eq_true rfl) (T_X5_next (Nat.le_refl _) e1) rfl ?_
      obtain ⟨q2, e2, hq⟩ := mh_ob hq
      refine st_invS (pc := 13) (Y := mX5_isDigit) (vs := [.int q1.1]) (rest := []) (st2 := [.int q2.1]) dX5_number_13 okX5_isDigit wd_560 wd_561 pdX5_isDigit rfl rfl rfl rfl (Nat.le_trans (by decide) hd) (Nat.le_of_ble_eq_true rfl) (T_X5_isDigit (Nat.le_refl _) e2) rfl ?_
      refine bd_if_eq (pc := 16) (tgt := 48) hq dX5_number_16 (by decide) (fun _ hq => ?_) (fun _ hq => ?_)
      ·
        refine st_iload_n (pc := 48) dX5_number_48 rfl ?_
        exact bd_iret (pc := 49) hq dX5_number_49 rfl
      ·
        refine st_iload_n (pc := 19) dX5_number_19 rfl ?_
        refine st_bipush (pc := 20) (v := (10 : Int32)) dX5_number_20 (by decide) ?_
        refine st_imul (pc := 22) dX5_number_22 ?_
        refine st_aload_n (pc := 23) dX5_number_23 rfl ?_
        obtain ⟨⟨hbq3, hkq3⟩, hq⟩ := mh_oi hq
        obtain ⟨q3, e3, hq⟩ := mh_ob hq
        refine st_invV (pc := 24) (ci := 5) (vs := []) (rest := [.int (l1 * (10 : Int32))]) (st2 := [.int q3.1, .int (l1 * (10 : Int32))]) dX5_number_24 okX5_next (by decide) hkq3 hbq3 wd_556 wd_558 wp_9 pdX5_next rfl rfl rfl rfl (Nat.le_trans (by decide) hd) (Nat.le_of_ble_eq_true rfl) (T_X5_next (Nat.le_refl _) e3) rfl ?_
        refine st_iadd (pc := 27) dX5_number_27 ?_
        refine st_bipush (pc := 28) (v := (48 : Int32)) dX5_number_28 (by decide) ?_
        refine st_isub (pc := 30) dX5_number_30 ?_
        refine bd_leti hq (fun v4 hq => ?_)
        refine st_istore_n (pc := 31) (lv' := [some (.ref l0), some (.int v4), some (.int l2)]) dX5_number_31 rfl (by decide) rfl ?_
        refine st_aload_n (pc := 32) dX5_number_32 rfl ?_
        refine st_dup (pc := 33) dX5_number_33 rfl ?_
        refine bd_geti (pc := 34) hq dX5_number_34 fl_5_28_5 rfl (fun v5 hq => ?_)
        refine st_iconst (pc := 37) (v := (1 : Int32)) dX5_number_37 rfl ?_
        refine st_iadd (pc := 38) dX5_number_38 ?_
        refine bd_puti (pc := 39) hq dX5_number_39 fl_5_28_5 (Or.inl rfl) rfl (fun h6 hq => ?_)
        refine st_iinc (pc := 42) (lv' := [some (.ref l0), some (.int v4), some (.int (l2 + Int32.ofInt (1)))]) dX5_number_42 rfl rfl (by decide) rfl ?_
        refine st_goto (pc := 45) (tgt := 4) dX5_number_45 (by decide) ?_
        exact ih _ _ _ _ hq
def D_X5_number (N : Nat) (h : mh_H) (l0 : Nat) : Option (Int32 × mh_H) :=
  D_X5_number_4 N N h l0 (0 : Int32) (0 : Int32)
set_option maxHeartbeats 4000000 in
set_option maxRecDepth 100000 in
theorem T_X5_number {P : mh_E → Prop} {N d : Nat} (hd : 2 ≤ d) {z : (Int32 × mh_H)} {h : mh_H} {l0 : Nat} (hq : D_X5_number N h l0 = some z) : mh_go P d mX5_number 0 [some (.ref l0), none, none] [] h (some (.int z.1)) z.2 := by
  unfold D_X5_number at hq
  refine st_iconst (pc := 0) (v := (0 : Int32)) dX5_number_0 rfl ?_
  refine st_istore_n (pc := 1) (lv' := [some (.ref l0), some (.int (0 : Int32)), none]) dX5_number_1 rfl (by decide) rfl ?_
  refine st_iconst (pc := 2) (v := (0 : Int32)) dX5_number_2 rfl ?_
  refine st_istore_n (pc := 3) (lv' := [some (.ref l0), some (.int (0 : Int32)), some (.int (0 : Int32))]) dX5_number_3 rfl (by decide) rfl ?_
  exact T_X5_number_4 hd N _ _ _ _ hq
-- java/lang/String.isLatin1()Z
theorem dJ0_isLatin1_aae02_0 : decode cJ0_isLatin1_aae02 0 = .ok (.getstatic 38, 3) := by decide +kernel
theorem dJ0_isLatin1_aae02_3 : decode cJ0_isLatin1_aae02 3 = .ok (.ifCond .eq 14, 3) := by decide +kernel
theorem dJ0_isLatin1_aae02_17 : decode cJ0_isLatin1_aae02 17 = .ok (.iconst 0, 1) := by decide +kernel
theorem dJ0_isLatin1_aae02_18 : decode cJ0_isLatin1_aae02 18 = .ok (.ireturn, 1) := by decide +kernel
theorem dJ0_isLatin1_aae02_6 : decode cJ0_isLatin1_aae02 6 = .ok (.aload_n 0, 1) := by decide +kernel
theorem dJ0_isLatin1_aae02_7 : decode cJ0_isLatin1_aae02 7 = .ok (.getfield 15, 3) := by decide +kernel
theorem dJ0_isLatin1_aae02_10 : decode cJ0_isLatin1_aae02 10 = .ok (.ifCond .ne 7, 3) := by decide +kernel
theorem dJ0_isLatin1_aae02_13 : decode cJ0_isLatin1_aae02 13 = .ok (.iconst 1, 1) := by decide +kernel
theorem dJ0_isLatin1_aae02_14 : decode cJ0_isLatin1_aae02 14 = .ok (.goto 4, 3) := by decide +kernel
def D_J0_isLatin1_aae02 (N : Nat) (h : mh_H) (l0 : Nat) : Option (Int32 × mh_H) :=
  if (1 : Int32) = 0 then (zB (0 : Int32) h)
  else ((sC l0).bind fun v1 =>
  if v1 = 0 then (zB (1 : Int32) h)
  else (zB (0 : Int32) h))
set_option maxHeartbeats 4000000 in
set_option maxRecDepth 100000 in
theorem T_J0_isLatin1_aae02 {P : mh_E → Prop} {N d : Nat} (hd : 1 ≤ d) {z : (Int32 × mh_H)} {h : mh_H} {l0 : Nat} (hq : D_J0_isLatin1_aae02 N h l0 = some z) : mh_go P d mJ0_isLatin1_aae02 0 [some (.ref l0)] [] h (some (.int z.1)) z.2 := by
  unfold D_J0_isLatin1_aae02 at hq
  refine st_cs (pc := 0) dJ0_isLatin1_aae02_0 wd_583 ?_
  refine bd_if_eq (pc := 3) (tgt := 17) hq dJ0_isLatin1_aae02_3 (by decide) (fun _ hq => ?_) (fun _ hq => ?_)
  ·
    refine st_iconst (pc := 17) (v := (0 : Int32)) dJ0_isLatin1_aae02_17 rfl ?_
    exact bd_zret (pc := 18) hq dJ0_isLatin1_aae02_18 rfl
  ·
    refine st_aload_n (pc := 6) dJ0_isLatin1_aae02_6 rfl ?_
    refine bd_sC (pc := 7) hq dJ0_isLatin1_aae02_7 wd_1724 (fun v1 hq => ?_)
    refine bd_if_ne (pc := 10) (tgt := 17) hq dJ0_isLatin1_aae02_10 (by decide) (fun _ hq => ?_) (fun _ hq => ?_)
    ·
      refine st_iconst (pc := 13) (v := (1 : Int32)) dJ0_isLatin1_aae02_13 rfl ?_
      refine st_goto (pc := 14) (tgt := 18) dJ0_isLatin1_aae02_14 (by decide) ?_
      exact bd_zret (pc := 18) hq dJ0_isLatin1_aae02_18 rfl
    ·
      refine st_iconst (pc := 17) (v := (0 : Int32)) dJ0_isLatin1_aae02_17 rfl ?_
      exact bd_zret (pc := 18) hq dJ0_isLatin1_aae02_18 rfl
-- java/lang/String.coder()B
theorem dJ0_coder_7d493_0 : decode cJ0_coder_7d493 0 = .ok (.getstatic 38, 3) := by decide +kernel
theorem dJ0_coder_7d493_3 : decode cJ0_coder_7d493 3 = .ok (.ifCond .eq 10, 3) := by decide +kernel
theorem dJ0_coder_7d493_13 : decode cJ0_coder_7d493 13 = .ok (.iconst 1, 1) := by decide +kernel
theorem dJ0_coder_7d493_14 : decode cJ0_coder_7d493 14 = .ok (.ireturn, 1) := by decide +kernel
theorem dJ0_coder_7d493_6 : decode cJ0_coder_7d493 6 = .ok (.aload_n 0, 1) := by decide +kernel
theorem dJ0_coder_7d493_7 : decode cJ0_coder_7d493 7 = .ok (.getfield 15, 3) := by decide +kernel
theorem dJ0_coder_7d493_10 : decode cJ0_coder_7d493 10 = .ok (.goto 4, 3) := by decide +kernel
def D_J0_coder_7d493 (N : Nat) (h : mh_H) (l0 : Nat) : Option (Int32 × mh_H) :=
  if (1 : Int32) = 0 then (zB (1 : Int32) h)
  else ((sC l0).bind fun v1 =>
  zB v1 h)
set_option maxHeartbeats 4000000 in
set_option maxRecDepth 100000 in
theorem T_J0_coder_7d493 {P : mh_E → Prop} {N d : Nat} (hd : 1 ≤ d) {z : (Int32 × mh_H)} {h : mh_H} {l0 : Nat} (hq : D_J0_coder_7d493 N h l0 = some z) : mh_go P d mJ0_coder_7d493 0 [some (.ref l0)] [] h (some (.int z.1)) z.2 := by
  unfold D_J0_coder_7d493 at hq
  refine st_cs (pc := 0) dJ0_coder_7d493_0 wd_583 ?_
  refine bd_if_eq (pc := 3) (tgt := 13) hq dJ0_coder_7d493_3 (by decide) (fun _ hq => ?_) (fun _ hq => ?_)
  ·
    refine st_iconst (pc := 13) (v := (1 : Int32)) dJ0_coder_7d493_13 rfl ?_
    exact bd_bret (pc := 14) hq dJ0_coder_7d493_14 rfl
  ·
    refine st_aload_n (pc := 6) dJ0_coder_7d493_6 rfl ?_
    refine bd_sC (pc := 7) hq dJ0_coder_7d493_7 wd_1724 (fun v1 hq => ?_)
    refine st_goto (pc := 10) (tgt := 14) dJ0_coder_7d493_10 (by decide) ?_
    exact bd_bret (pc := 14) hq dJ0_coder_7d493_14 rfl
-- java/lang/String.length()I
theorem dJ0_length_8abf5_0 : decode cJ0_length_8abf5 0 = .ok (.aload_n 0, 1) := by decide +kernel
theorem dJ0_length_8abf5_1 : decode cJ0_length_8abf5 1 = .ok (.getfield 9, 3) := by decide +kernel
theorem dJ0_length_8abf5_4 : decode cJ0_length_8abf5 4 = .ok (.arraylength, 1) := by decide +kernel
theorem dJ0_length_8abf5_5 : decode cJ0_length_8abf5 5 = .ok (.aload_n 0, 1) := by decide +kernel
theorem dJ0_length_8abf5_6 : decode cJ0_length_8abf5 6 = .ok (.invokevirtual 335, 3) := by decide +kernel
theorem dJ0_length_8abf5_9 : decode cJ0_length_8abf5 9 = .ok (.ishr, 1) := by decide +kernel
theorem dJ0_length_8abf5_10 : decode cJ0_length_8abf5 10 = .ok (.ireturn, 1) := by decide +kernel
def D_J0_length_8abf5 (N : Nat) (h : mh_H) (l0 : Nat) : Option (Int32 × mh_H) :=
  (sV l0).bind fun v1 =>
  (tL v1).bind fun v2 =>
  kS l0 <|
  (D_J0_coder_7d493 N h l0).bind fun q3 =>
  some (v2 >>> (q3.1 &&& 31), q3.2)
set_option maxHeartbeats 4000000 in
set_option maxRecDepth 100000 in
theorem T_J0_length_8abf5 {P : mh_E → Prop} {N d : Nat} (hd : 2 ≤ d) {z : (Int32 × mh_H)} {h : mh_H} {l0 : Nat} (hq : D_J0_length_8abf5 N h l0 = some z) : mh_go P d mJ0_length_8abf5 0 [some (.ref l0)] [] h (some (.int z.1)) z.2 := by
  unfold D_J0_length_8abf5 at hq
  refine st_aload_n (pc := 0) dJ0_length_8abf5_0 rfl ?_
  refine bd_sV (pc := 1) hq dJ0_length_8abf5_1 wd_1725 (fun v1 hq => ?_)
  refine bd_tl (pc := 4) hq dJ0_length_8abf5_4 (fun v2 hq => ?_)
  refine st_aload_n (pc := 5) dJ0_length_8abf5_5 rfl ?_
  obtain ⟨hSq3, hq⟩ := mh_oi hq
  obtain ⟨q3, e3, hq⟩ := mh_ob hq
  refine st_invT (pc := 6) (vs := []) (rest := [.int v2]) (st2 := [.int q3.1, .int v2]) dJ0_length_8abf5_6 okJ0_coder_7d493 hSq3 wd_589 wd_590 wd_591 pdJ0_coder_7d493 rfl rfl rfl rfl (Nat.le_trans (by decide) hd) (Nat.le_of_ble_eq_true rfl) (T_J0_coder_7d493 (Nat.le_refl _) e3) rfl ?_
  refine st_ishr (pc := 9) dJ0_length_8abf5_9 ?_
  exact bd_iret (pc := 10) hq dJ0_length_8abf5_10 rfl
-- java/lang/StringLatin1.canEncode(I)Z
theorem dJ1_canEncode_9a6ad_0 : decode cJ1_canEncode_9a6ad 0 = .ok (.iload_n 0, 1) := by decide +kernel
theorem dJ1_canEncode_9a6ad_1 : decode cJ1_canEncode_9a6ad 1 = .ok (.ifCond .lt 14, 3) := by decide +kernel
theorem dJ1_canEncode_9a6ad_15 : decode cJ1_canEncode_9a6ad 15 = .ok (.iconst 0, 1) := by decide +kernel
theorem dJ1_canEncode_9a6ad_16 : decode cJ1_canEncode_9a6ad 16 = .ok (.ireturn, 1) := by decide +kernel
theorem dJ1_canEncode_9a6ad_4 : decode cJ1_canEncode_9a6ad 4 = .ok (.iload_n 0, 1) := by decide +kernel
theorem dJ1_canEncode_9a6ad_5 : decode cJ1_canEncode_9a6ad 5 = .ok (.sipush 255, 3) := by decide +kernel
theorem dJ1_canEncode_9a6ad_8 : decode cJ1_canEncode_9a6ad 8 = .ok (.if_icmp .gt 7, 3) := by decide +kernel
theorem dJ1_canEncode_9a6ad_11 : decode cJ1_canEncode_9a6ad 11 = .ok (.iconst 1, 1) := by decide +kernel
theorem dJ1_canEncode_9a6ad_12 : decode cJ1_canEncode_9a6ad 12 = .ok (.goto 4, 3) := by decide +kernel
def D_J1_canEncode_9a6ad (N : Nat) (h : mh_H) (l0 : Int32) : Option (Int32 × mh_H) :=
  if l0 < 0 then (zB (0 : Int32) h)
  else (if (255 : Int32) < l0 then (zB (0 : Int32) h)
  else (zB (1 : Int32) h))
set_option maxHeartbeats 4000000 in
set_option maxRecDepth 100000 in
theorem T_J1_canEncode_9a6ad {P : mh_E → Prop} {N d : Nat} (hd : 1 ≤ d) {z : (Int32 × mh_H)} {h : mh_H} {l0 : Int32} (hq : D_J1_canEncode_9a6ad N h l0 = some z) : mh_go P d mJ1_canEncode_9a6ad 0 [some (.int l0)] [] h (some (.int z.1)) z.2 := by
  unfold D_J1_canEncode_9a6ad at hq
  refine st_iload_n (pc := 0) dJ1_canEncode_9a6ad_0 rfl ?_
  refine bd_if_lt (pc := 1) (tgt := 15) hq dJ1_canEncode_9a6ad_1 (by decide) (fun _ hq => ?_) (fun _ hq => ?_)
  ·
    refine st_iconst (pc := 15) (v := (0 : Int32)) dJ1_canEncode_9a6ad_15 rfl ?_
    exact bd_zret (pc := 16) hq dJ1_canEncode_9a6ad_16 rfl
  ·
    refine st_iload_n (pc := 4) dJ1_canEncode_9a6ad_4 rfl ?_
    refine st_sipush (pc := 5) (v := (255 : Int32)) dJ1_canEncode_9a6ad_5 (by decide) ?_
    refine bd_icmp_gt (pc := 8) (tgt := 15) hq dJ1_canEncode_9a6ad_8 (by decide) (fun _ hq => ?_) (fun _ hq => ?_)
    ·
      refine st_iconst (pc := 15) (v := (0 : Int32)) dJ1_canEncode_9a6ad_15 rfl ?_
      exact bd_zret (pc := 16) hq dJ1_canEncode_9a6ad_16 rfl
    ·
      refine st_iconst (pc := 11) (v := (1 : Int32)) dJ1_canEncode_9a6ad_11 rfl ?_
      refine st_goto (pc := 12) (tgt := 16) dJ1_canEncode_9a6ad_12 (by decide) ?_
      exact bd_zret (pc := 16) hq dJ1_canEncode_9a6ad_16 rfl
-- java/lang/StringLatin1.indexOfChar([BIII)I
theorem dJ1_indexOfChar_4cfef_7 : decode cJ1_indexOfChar_4cfef 7 = .ok (.iload 5, 2) := by decide +kernel
theorem dJ1_indexOfChar_4cfef_9 : decode cJ1_indexOfChar_4cfef 9 = .ok (.iload_n 3, 1) := by decide +kernel
theorem dJ1_indexOfChar_4cfef_10 : decode cJ1_indexOfChar_4cfef 10 = .ok (.if_icmp .ge 21, 3) := by decide +kernel
theorem dJ1_indexOfChar_4cfef_31 : decode cJ1_indexOfChar_4cfef 31 = .ok (.iconst (-1), 1) := by decide +kernel
theorem dJ1_indexOfChar_4cfef_32 : decode cJ1_indexOfChar_4cfef 32 = .ok (.ireturn, 1) := by decide +kernel
theorem dJ1_indexOfChar_4cfef_13 : decode cJ1_indexOfChar_4cfef 13 = .ok (.aload_n 0, 1) := by decide +kernel
theorem dJ1_indexOfChar_4cfef_14 : decode cJ1_indexOfChar_4cfef 14 = .ok (.iload 5, 2) := by decide +kernel
theorem dJ1_indexOfChar_4cfef_16 : decode cJ1_indexOfChar_4cfef 16 = .ok (.baload, 1) := by decide +kernel
theorem dJ1_indexOfChar_4cfef_17 : decode cJ1_indexOfChar_4cfef 17 = .ok (.iload 4, 2) := by decide +kernel
theorem dJ1_indexOfChar_4cfef_19 : decode cJ1_indexOfChar_4cfef 19 = .ok (.if_icmp .ne 6, 3) := by decide +kernel
theorem dJ1_indexOfChar_4cfef_22 : decode cJ1_indexOfChar_4cfef 22 = .ok (.iload 5, 2) := by decide +kernel
theorem dJ1_indexOfChar_4cfef_24 : decode cJ1_indexOfChar_4cfef 24 = .ok (.ireturn, 1) := by decide +kernel
theorem dJ1_indexOfChar_4cfef_25 : decode cJ1_indexOfChar_4cfef 25 = .ok (.iinc 5 1, 3) := by decide +kernel
theorem dJ1_indexOfChar_4cfef_28 : decode cJ1_indexOfChar_4cfef 28 = .ok (.goto (-21), 3) := by decide +kernel
theorem dJ1_indexOfChar_4cfef_0 : decode cJ1_indexOfChar_4cfef 0 = .ok (.iload_n 1, 1) := by decide +kernel
theorem dJ1_indexOfChar_4cfef_1 : decode cJ1_indexOfChar_4cfef 1 = .ok (.i2b, 1) := by decide +kernel
theorem dJ1_indexOfChar_4cfef_2 : decode cJ1_indexOfChar_4cfef 2 = .ok (.istore 4, 2) := by decide +kernel
theorem dJ1_indexOfChar_4cfef_4 : decode cJ1_indexOfChar_4cfef 4 = .ok (.iload_n 2, 1) := by decide +kernel
theorem dJ1_indexOfChar_4cfef_5 : decode cJ1_indexOfChar_4cfef 5 = .ok (.istore 5, 2) := by decide +kernel
def D_J1_indexOfChar_4cfef_7 (N : Nat) : Nat → mh_H → Nat → Int32 → Int32 → Int32 → Option (Int32 × mh_H)
  | 0, _, _, _, _, _ => none
  | F + 1, h, l0, l3, l4, l5 =>
    if l3 ≤ l5 then (some ((-1 : Int32), h))
    else ((tB l0 l5).bind fun v1 =>
    if v1 = l4 then (some (l5, h))
    else ((D_J1_indexOfChar_4cfef_7 N F) h l0 l3 l4 (l5 + Int32.ofInt (1))))
set_option maxHeartbeats 4000000 in
set_option maxRecDepth 100000 in
theorem T_J1_indexOfChar_4cfef_7 {P : mh_E → Prop} {N d : Nat} (hd : 1 ≤ d) {z : (Int32 × mh_H)} : ∀ (F : Nat) (h : mh_H) (l0 : Nat) (l3 : Int32) (l4 : Int32) (l5 : Int32), D_J1_indexOfChar_4cfef_7 N F h l0 l3 l4 l5 = some z → mh_go P d mJ1_indexOfChar_4cfef 7 [some (.ref l0), none, none, some (.int l3), some (.int l4), some (.int l5)] [] h (some (.int z.1)) z.2 := by
  intro F
  induction F with
  | zero => intro h l0 l3 l4 l5 hq; rw [D_J1_indexOfChar_4cfef_7] at hq; cases hq
  | succ F ih =>
    intro h l0 l3 l4 l5 hq
    rw [D_J1_indexOfChar_4cfef_7] at hq
    refine st_iload (pc := 7) dJ1_indexOfChar_4cfef_7 rfl ?_
    refine st_iload_n (pc := 9) dJ1_indexOfChar_4cfef_9 rfl ?_
    refine bd_icmp_ge (pc := 10) (tgt := 31) hq dJ1_indexOfChar_4cfef_10 (by decide) (fun _ hq => ?_) (fun _ hq => ?_)
    ·
      refine st_iconst (pc := 31) (v := (-1 : Int32)) dJ1_indexOfChar_4cfef_31 rfl ?_
      exact bd_iret (pc := 32) hq dJ1_indexOfChar_4cfef_32 rfl
    ·
      refine st_aload_n (pc := 13) dJ1_indexOfChar_4cfef_13 rfl ?_
      refine st_iload (pc := 14) dJ1_indexOfChar_4cfef_14 rfl ?_
      refine bd_tb (pc := 16) hq dJ1_indexOfChar_4cfef_16 (fun v1 hq => ?_)
      refine st_iload (pc := 17) dJ1_indexOfChar_4cfef_17 rfl ?_
      refine bd_icmp_ne (pc := 19) (tgt := 25) hq dJ1_indexOfChar_4cfef_19 (by decide) (fun _ hq => ?_) (fun _ hq => ?_)
      ·
        refine st_iload (pc := 22) dJ1_indexOfChar_4cfef_22 rfl ?_
        exact bd_iret (pc := 24) hq dJ1_indexOfChar_4cfef_24 rfl
      ·
        refine st_iinc (pc := 25) (lv' := [some (.ref l0), none, none, some (.int l3), some (.int l4), some (.int (l5 + Int32.ofInt (1)))]) dJ1_indexOfChar_4cfef_25 rfl rfl (by decide) rfl ?_
        refine st_goto (pc := 28) (tgt := 7) dJ1_indexOfChar_4cfef_28 (by decide) ?_
        exact ih _ _ _ _ _ hq
def D_J1_indexOfChar_4cfef (N : Nat) (h : mh_H) (l0 : Nat) (l1 : Int32) (l2 : Int32) (l3 : Int32) : Option (Int32 × mh_H) :=
  D_J1_indexOfChar_4cfef_7 N N h l0 l3 l1.toInt8.toInt32 l2
set_option maxHeartbeats 4000000 in
set_option maxRecDepth 100000 in
theorem T_J1_indexOfChar_4cfef {P : mh_E → Prop} {N d : Nat} (hd : 1 ≤ d) {z : (Int32 × mh_H)} {h : mh_H} {l0 : Nat} {l1 : Int32} {l2 : Int32} {l3 : Int32} (hq : D_J1_indexOfChar_4cfef N h l0 l1 l2 l3 = some z) : mh_go P d mJ1_indexOfChar_4cfef 0 [some (.ref l0), some (.int l1), some (.int l2), some (.int l3), none, none] [] h (some (.int z.1)) z.2 := by
  unfold D_J1_indexOfChar_4cfef at hq
  refine st_iload_n (pc := 0) dJ1_indexOfChar_4cfef_0 rfl ?_
  refine st_i2b (pc := 1) dJ1_indexOfChar_4cfef_1 ?_
  refine st_istore (pc := 2) (lv' := [some (.ref l0), some (.int l1), some (.int l2), some (.int l3), some (.int l1.toInt8.toInt32), none]) dJ1_indexOfChar_4cfef_2 rfl (by decide) rfl ?_
  refine st_iload_n (pc := 4) dJ1_indexOfChar_4cfef_4 rfl ?_
  refine st_istore (pc := 5) (lv' := [some (.ref l0), some (.int l1), some (.int l2), some (.int l3), some (.int l1.toInt8.toInt32), some (.int l2)]) dJ1_indexOfChar_4cfef_5 rfl (by decide) rfl ?_
  refine st_lesS (lv' := [some (.ref l0), none, none, some (.int l3), some (.int l1.toInt8.toInt32), some (.int l2)]) ⟨Or.inr rfl, Or.inl rfl, Or.inl rfl, Or.inr rfl, Or.inr rfl, Or.inr rfl, trivial⟩ ?_
  exact T_J1_indexOfChar_4cfef_7 hd N _ _ _ _ _ hq
-- java/lang/StringLatin1.indexOf([BIII)I
theorem dJ1_indexOf_4cfef_0 : decode cJ1_indexOf_4cfef 0 = .ok (.iload_n 1, 1) := by decide +kernel
theorem dJ1_indexOf_4cfef_1 : decode cJ1_indexOf_4cfef 1 = .ok (.invokestatic 88, 3) := by decide +kernel
theorem dJ1_indexOf_4cfef_4 : decode cJ1_indexOf_4cfef 4 = .ok (.ifCond .ne 5, 3) := by decide +kernel
theorem dJ1_indexOf_4cfef_7 : decode cJ1_indexOf_4cfef 7 = .ok (.iconst (-1), 1) := by decide +kernel
theorem dJ1_indexOf_4cfef_8 : decode cJ1_indexOf_4cfef 8 = .ok (.ireturn, 1) := by decide +kernel
theorem dJ1_indexOf_4cfef_9 : decode cJ1_indexOf_4cfef 9 = .ok (.iload_n 2, 1) := by decide +kernel
theorem dJ1_indexOf_4cfef_10 : decode cJ1_indexOf_4cfef 10 = .ok (.iconst 0, 1) := by decide +kernel
theorem dJ1_indexOf_4cfef_11 : decode cJ1_indexOf_4cfef 11 = .ok (.invokestatic 92, 3) := by decide +kernel
theorem dJ1_indexOf_4cfef_14 : decode cJ1_indexOf_4cfef 14 = .ok (.istore_n 2, 1) := by decide +kernel
theorem dJ1_indexOf_4cfef_15 : decode cJ1_indexOf_4cfef 15 = .ok (.iload_n 3, 1) := by decide +kernel
theorem dJ1_indexOf_4cfef_16 : decode cJ1_indexOf_4cfef 16 = .ok (.aload_n 0, 1) := by decide +kernel
theorem dJ1_indexOf_4cfef_17 : decode cJ1_indexOf_4cfef 17 = .ok (.arraylength, 1) := by decide +kernel
theorem dJ1_indexOf_4cfef_18 : decode cJ1_indexOf_4cfef 18 = .ok (.invokestatic 38, 3) := by decide +kernel
theorem dJ1_indexOf_4cfef_21 : decode cJ1_indexOf_4cfef 21 = .ok (.istore_n 3, 1) := by decide +kernel
theorem dJ1_indexOf_4cfef_22 : decode cJ1_indexOf_4cfef 22 = .ok (.iload_n 2, 1) := by decide +kernel
theorem dJ1_indexOf_4cfef_23 : decode cJ1_indexOf_4cfef 23 = .ok (.iload_n 3, 1) := by decide +kernel
theorem dJ1_indexOf_4cfef_24 : decode cJ1_indexOf_4cfef 24 = .ok (.if_icmp .lt 5, 3) := by decide +kernel
theorem dJ1_indexOf_4cfef_29 : decode cJ1_indexOf_4cfef 29 = .ok (.aload_n 0, 1) := by decide +kernel
theorem dJ1_indexOf_4cfef_30 : decode cJ1_indexOf_4cfef 30 = .ok (.iload_n 1, 1) := by decide +kernel
theorem dJ1_indexOf_4cfef_31 : decode cJ1_indexOf_4cfef 31 = .ok (.iload_n 2, 1) := by decide +kernel
theorem dJ1_indexOf_4cfef_32 : decode cJ1_indexOf_4cfef 32 = .ok (.iload_n 3, 1) := by decide +kernel
theorem dJ1_indexOf_4cfef_33 : decode cJ1_indexOf_4cfef 33 = .ok (.invokestatic 95, 3) := by decide +kernel
theorem dJ1_indexOf_4cfef_36 : decode cJ1_indexOf_4cfef 36 = .ok (.ireturn, 1) := by decide +kernel
theorem dJ1_indexOf_4cfef_27 : decode cJ1_indexOf_4cfef 27 = .ok (.iconst (-1), 1) := by decide +kernel
theorem dJ1_indexOf_4cfef_28 : decode cJ1_indexOf_4cfef 28 = .ok (.ireturn, 1) := by decide +kernel
def D_J1_indexOf_4cfef (N : Nat) (h : mh_H) (l0 : Nat) (l1 : Int32) (l2 : Int32) (l3 : Int32) : Option (Int32 × mh_H) :=
  (D_J1_canEncode_9a6ad N h l1).bind fun q1 =>
  if q1.1 = 0 then (some ((-1 : Int32), q1.2))
  else ((tL l0).bind fun v2 =>
  if (mh_max l2 (0 : Int32)) < (mh_min l3 v2) then ((D_J1_indexOfChar_4cfef N q1.2 l0 l1 (mh_max l2 (0 : Int32)) (mh_min l3 v2)).bind fun q3 =>
  some (q3.1, q3.2))
  else (some ((-1 : Int32), q1.2)))
set_option maxHeartbeats 4000000 in
set_option maxRecDepth 100000 in
theorem T_J1_indexOf_4cfef {P : mh_E → Prop} {N d : Nat} (hd : 2 ≤ d) {z : (Int32 × mh_H)} {h : mh_H} {l0 : Nat} {l1 : Int32} {l2 : Int32} {l3 : Int32} (hq : D_J1_indexOf_4cfef N h l0 l1 l2 l3 = some z) : mh_go P d mJ1_indexOf_4cfef 0 [some (.ref l0), some (.int l1), some (.int l2), some (.int l3)] [] h (some (.int z.1)) z.2 := by
  unfold D_J1_indexOf_4cfef at hq
  refine st_iload_n (pc := 0) dJ1_indexOf_4cfef_0 rfl ?_
  obtain ⟨q1, e1, hq⟩ := mh_ob hq
  refine st_invS (pc := 1) (Y := mJ1_canEncode_9a6ad) (vs := [.int l1]) (rest := []) (st2 := [.int q1.1]) dJ1_indexOf_4cfef_1 okJ1_canEncode_9a6ad wd_596 wd_597 pdJ1_canEncode_9a6ad rfl rfl rfl rfl (Nat.le_trans (by decide) hd) (Nat.le_of_ble_eq_true rfl) (T_J1_canEncode_9a6ad (Nat.le_refl _) e1) rfl ?_
  refine bd_if_ne (pc := 4) (tgt := 9) hq dJ1_indexOf_4cfef_4 (by decide) (fun _ hq => ?_) (fun _ hq => ?_)
  ·
    refine st_iconst (pc := 7) (v := (-1 : Int32)) dJ1_indexOf_4cfef_7 rfl ?_
    exact bd_iret (pc := 8) hq dJ1_indexOf_4cfef_8 rfl
  ·
    refine st_iload_n (pc := 9) dJ1_indexOf_4cfef_9 rfl ?_
    refine st_iconst (pc := 10) (v := (0 : Int32)) dJ1_indexOf_4cfef_10 rfl ?_
    refine st_mmax (pc := 11) dJ1_indexOf_4cfef_11 wd_599 (Nat.le_trans (by decide) hd) (Nat.le_of_ble_eq_true rfl) ?_
    refine st_istore_n (pc := 14) (lv' := [some (.ref l0), some (.int l1), some (.int (mh_max l2 (0 : Int32))), some (.int l3)]) dJ1_indexOf_4cfef_14 rfl (by decide) rfl ?_
    refine st_iload_n (pc := 15) dJ1_indexOf_4cfef_15 rfl ?_
    refine st_aload_n (pc := 16) dJ1_indexOf_4cfef_16 rfl ?_
    refine bd_tl (pc := 17) hq dJ1_indexOf_4cfef_17 (fun v2 hq => ?_)
    refine st_mmin (pc := 18) dJ1_indexOf_4cfef_18 wd_600 (Nat.le_trans (by decide) hd) (Nat.le_of_ble_eq_true rfl) ?_
    refine st_istore_n (pc := 21) (lv' := [some (.ref l0), some (.int l1), some (.int (mh_max l2 (0 : Int32))), some (.int (mh_min l3 v2))]) dJ1_indexOf_4cfef_21 rfl (by decide) rfl ?_
    refine st_iload_n (pc := 22) dJ1_indexOf_4cfef_22 rfl ?_
    refine st_iload_n (pc := 23) dJ1_indexOf_4cfef_23 rfl ?_
    refine bd_icmp_lt (pc := 24) (tgt := 29) hq dJ1_indexOf_4cfef_24 (by decide) (fun _ hq => ?_) (fun _ hq => ?_)
    ·
      refine st_aload_n (pc := 29) dJ1_indexOf_4cfef_29 rfl ?_
      refine st_iload_n (pc := 30) dJ1_indexOf_4cfef_30 rfl ?_
      refine st_iload_n (pc := 31) dJ1_indexOf_4cfef_31 rfl ?_
      refine st_iload_n (pc := 32) dJ1_indexOf_4cfef_32 rfl ?_
      obtain ⟨q3, e3, hq⟩ := mh_ob hq
      refine st_invS (pc := 33) (Y := mJ1_indexOfChar_4cfef) (vs := [.ref l0, .int l1, .int (mh_max l2 (0 : Int32)), .int (mh_min l3 v2)]) (rest := []) (st2 := [.int q3.1]) dJ1_indexOf_4cfef_33 okJ1_indexOfChar_4cfef wd_601 wd_602 pdJ1_indexOfChar_4cfef rfl rfl rfl rfl (Nat.le_trans (by decide) hd) (Nat.le_of_ble_eq_true rfl) (T_J1_indexOfChar_4cfef (Nat.le_refl _) e3) rfl ?_
      exact bd_iret (pc := 36) hq dJ1_indexOf_4cfef_36 rfl
    ·
      refine st_iconst (pc := 27) (v := (-1 : Int32)) dJ1_indexOf_4cfef_27 rfl ?_
      exact bd_iret (pc := 28) hq dJ1_indexOf_4cfef_28 rfl
-- java/lang/String.indexOf(II)I
theorem dJ0_indexOf_7cf53_0 : decode cJ0_indexOf_7cf53 0 = .ok (.aload_n 0, 1) := by decide +kernel
theorem dJ0_indexOf_7cf53_1 : decode cJ0_indexOf_7cf53 1 = .ok (.invokevirtual 492, 3) := by decide +kernel
theorem dJ0_indexOf_7cf53_4 : decode cJ0_indexOf_7cf53 4 = .ok (.ifCond .eq 19, 3) := by decide +kernel
theorem dJ0_indexOf_7cf53_23 : decode cJ0_indexOf_7cf53 23 = .ok (.aload_n 0, 1) := by decide +kernel
theorem dJ0_indexOf_7cf53_24 : decode cJ0_indexOf_7cf53 24 = .ok (.getfield 9, 3) := by decide +kernel
theorem dJ0_indexOf_7cf53_27 : decode cJ0_indexOf_7cf53 27 = .ok (.iload_n 1, 1) := by decide +kernel
theorem dJ0_indexOf_7cf53_28 : decode cJ0_indexOf_7cf53 28 = .ok (.iload_n 2, 1) := by decide +kernel
theorem dJ0_indexOf_7cf53_29 : decode cJ0_indexOf_7cf53 29 = .ok (.aload_n 0, 1) := by decide +kernel
theorem dJ0_indexOf_7cf53_30 : decode cJ0_indexOf_7cf53 30 = .ok (.invokevirtual 505, 3) := by decide +kernel
theorem dJ0_indexOf_7cf53_33 : decode cJ0_indexOf_7cf53 33 = .ok (.invokestatic 640, 3) := by decide +kernel
theorem dJ0_indexOf_7cf53_7 : decode cJ0_indexOf_7cf53 7 = .ok (.aload_n 0, 1) := by decide +kernel
theorem dJ0_indexOf_7cf53_8 : decode cJ0_indexOf_7cf53 8 = .ok (.getfield 9, 3) := by decide +kernel
theorem dJ0_indexOf_7cf53_11 : decode cJ0_indexOf_7cf53 11 = .ok (.iload_n 1, 1) := by decide +kernel
theorem dJ0_indexOf_7cf53_12 : decode cJ0_indexOf_7cf53 12 = .ok (.iload_n 2, 1) := by decide +kernel
theorem dJ0_indexOf_7cf53_13 : decode cJ0_indexOf_7cf53 13 = .ok (.aload_n 0, 1) := by decide +kernel
theorem dJ0_indexOf_7cf53_14 : decode cJ0_indexOf_7cf53 14 = .ok (.invokevirtual 505, 3) := by decide +kernel
theorem dJ0_indexOf_7cf53_17 : decode cJ0_indexOf_7cf53 17 = .ok (.invokestatic 637, 3) := by decide +kernel
theorem dJ0_indexOf_7cf53_20 : decode cJ0_indexOf_7cf53 20 = .ok (.goto 16, 3) := by decide +kernel
theorem dJ0_indexOf_7cf53_36 : decode cJ0_indexOf_7cf53 36 = .ok (.ireturn, 1) := by decide +kernel
def D_J0_indexOf_7cf53 (N : Nat) (h : mh_H) (l0 : Nat) (l1 : Int32) (l2 : Int32) : Option (Int32 × mh_H) :=
  kS l0 <|
  (D_J0_isLatin1_aae02 N h l0).bind fun q1 =>
  if q1.1 = 0 then (none)
  else ((sV l0).bind fun v2 =>
  kS l0 <|
  (D_J0_length_8abf5 N q1.2 l0).bind fun q3 =>
  (D_J1_indexOf_4cfef N q3.2 v2 l1 l2 q3.1).bind fun q4 =>
  some (q4.1, q4.2))
set_option maxHeartbeats 4000000 in
set_option maxRecDepth 100000 in
theorem T_J0_indexOf_7cf53 {P : mh_E → Prop} {N d : Nat} (hd : 3 ≤ d) {z : (Int32 × mh_H)} {h : mh_H} {l0 : Nat} {l1 : Int32} {l2 : Int32} (hq : D_J0_indexOf_7cf53 N h l0 l1 l2 = some z) : mh_go P d mJ0_indexOf_7cf53 0 [some (.ref l0), some (.int l1), some (.int l2)] [] h (some (.int z.1)) z.2 := by
  unfold D_J0_indexOf_7cf53 at hq
  refine st_aload_n (pc := 0) dJ0_indexOf_7cf53_0 rfl ?_
  obtain ⟨hSq1, hq⟩ := mh_oi hq
  obtain ⟨q1, e1, hq⟩ := mh_ob hq
  refine st_invT (pc := 1) (vs := []) (rest := []) (st2 := [.int q1.1]) dJ0_indexOf_7cf53_1 okJ0_isLatin1_aae02 hSq1 wd_579 wd_580 wd_581 pdJ0_isLatin1_aae02 rfl rfl rfl rfl (Nat.le_trans (by decide) hd) (Nat.le_of_ble_eq_true rfl) (T_J0_isLatin1_aae02 (Nat.le_refl _) e1) rfl ?_
  refine bd_if_eq (pc := 4) (tgt := 23) hq dJ0_indexOf_7cf53_4 (by decide) (fun _ hq => ?_) (fun _ hq => ?_)
  ·
    cases hq
  ·
    refine st_aload_n (pc := 7) dJ0_indexOf_7cf53_7 rfl ?_
    refine bd_sV (pc := 8) hq dJ0_indexOf_7cf53_8 wd_1725 (fun v2 hq => ?_)
    refine st_iload_n (pc := 11) dJ0_indexOf_7cf53_11 rfl ?_
    refine st_iload_n (pc := 12) dJ0_indexOf_7cf53_12 rfl ?_
    refine st_aload_n (pc := 13) dJ0_indexOf_7cf53_13 rfl ?_
    obtain ⟨hSq3, hq⟩ := mh_oi hq
    obtain ⟨q3, e3, hq⟩ := mh_ob hq
    refine st_invT (pc := 14) (vs := []) (rest := [.int l2, .int l1, .ref v2]) (st2 := [.int q3.1, .int l2, .int l1, .ref v2]) dJ0_indexOf_7cf53_14 okJ0_length_8abf5 hSq3 wd_585 wd_586 wd_587 pdJ0_length_8abf5 rfl rfl rfl rfl (Nat.le_trans (by decide) hd) (Nat.le_of_ble_eq_true rfl) (T_J0_length_8abf5 (Nat.le_refl _) e3) rfl ?_
    obtain ⟨q4, e4, hq⟩ := mh_ob hq
    refine st_invS (pc := 17) (Y := mJ1_indexOf_4cfef) (vs := [.ref v2, .int l1, .int l2, .int q3.1]) (rest := []) (st2 := [.int q4.1]) dJ0_indexOf_7cf53_17 okJ1_indexOf_4cfef wd_593 wd_594 pdJ1_indexOf_4cfef rfl rfl rfl rfl (Nat.le_trans (by decide) hd) (Nat.le_of_ble_eq_true rfl) (T_J1_indexOf_4cfef (Nat.le_refl _) e4) rfl ?_
    refine st_goto (pc := 20) (tgt := 36) dJ0_indexOf_7cf53_20 (by decide) ?_
    exact bd_iret (pc := 36) hq dJ0_indexOf_7cf53_36 rfl
-- java/lang/String.indexOf(I)I
theorem dJ0_indexOf_0f7a4_0 : decode cJ0_indexOf_0f7a4 0 = .ok (.aload_n 0, 1) := by decide +kernel
theorem dJ0_indexOf_0f7a4_1 : decode cJ0_indexOf_0f7a4 1 = .ok (.iload_n 1, 1) := by decide +kernel
theorem dJ0_indexOf_0f7a4_2 : decode cJ0_indexOf_0f7a4 2 = .ok (.iconst 0, 1) := by decide +kernel
theorem dJ0_indexOf_0f7a4_3 : decode cJ0_indexOf_0f7a4 3 = .ok (.invokevirtual 633, 3) := by decide +kernel
theorem dJ0_indexOf_0f7a4_6 : decode cJ0_indexOf_0f7a4 6 = .ok (.ireturn, 1) := by decide +kernel
def D_J0_indexOf_0f7a4 (N : Nat) (h : mh_H) (l0 : Nat) (l1 : Int32) : Option (Int32 × mh_H) :=
  kS l0 <|
  (D_J0_indexOf_7cf53 N h l0 l1 (0 : Int32)).bind fun q1 =>
  some (q1.1, q1.2)
set_option maxHeartbeats 4000000 in
set_option maxRecDepth 100000 in
theorem T_J0_indexOf_0f7a4 {P : mh_E → Prop} {N d : Nat} (hd : 4 ≤ d) {z : (Int32 × mh_H)} {h : mh_H} {l0 : Nat} {l1 : Int32} (hq : D_J0_indexOf_0f7a4 N h l0 l1 = some z) : mh_go P d mJ0_indexOf_0f7a4 0 [some (.ref l0), some (.int l1)] [] h (some (.int z.1)) z.2 := by
  unfold D_J0_indexOf_0f7a4 at hq
  refine st_aload_n (pc := 0) dJ0_indexOf_0f7a4_0 rfl ?_
  refine st_iload_n (pc := 1) dJ0_indexOf_0f7a4_1 rfl ?_
  refine st_iconst (pc := 2) (v := (0 : Int32)) dJ0_indexOf_0f7a4_2 rfl ?_
  obtain ⟨hSq1, hq⟩ := mh_oi hq
  obtain ⟨q1, e1, hq⟩ := mh_ob hq
  refine st_invT (pc := 3) (vs := [.int l1, .int (0 : Int32)]) (rest := []) (st2 := [.int q1.1]) dJ0_indexOf_0f7a4_3 okJ0_indexOf_7cf53 hSq1 wd_575 wd_576 wd_577 pdJ0_indexOf_7cf53 rfl rfl rfl rfl (Nat.le_trans (by decide) hd) (Nat.le_of_ble_eq_true rfl) (T_J0_indexOf_7cf53 (Nat.le_refl _) e1) rfl ?_
  exact bd_iret (pc := 6) hq dJ0_indexOf_0f7a4_6 rfl
-- HoleWater$Reader.one(I)I
theorem dX5_one_103 : decode cX5_one 103 = .ok (.aload_n 0, 1) := by decide +kernel
theorem dX5_one_104 : decode cX5_one 104 = .ok (.iconst 1, 1) := by decide +kernel
theorem dX5_one_105 : decode cX5_one 105 = .ok (.putfield 31, 3) := by decide +kernel
theorem dX5_one_108 : decode cX5_one 108 = .ok (.iconst 0, 1) := by decide +kernel
theorem dX5_one_109 : decode cX5_one 109 = .ok (.ireturn, 1) := by decide +kernel
theorem dX5_one_89 : decode cX5_one 89 = .ok (.istore_n 2, 1) := by decide +kernel
theorem dX5_one_90 : decode cX5_one 90 = .ok (.iload_n 2, 1) := by decide +kernel
theorem dX5_one_91 : decode cX5_one 91 = .ok (.ifCond .lt 12, 3) := by decide +kernel
theorem dX5_one_94 : decode cX5_one 94 = .ok (.iload_n 2, 1) := by decide +kernel
theorem dX5_one_95 : decode cX5_one 95 = .ok (.aload_n 0, 1) := by decide +kernel
theorem dX5_one_96 : decode cX5_one 96 = .ok (.getfield 9, 3) := by decide +kernel
theorem dX5_one_99 : decode cX5_one 99 = .ok (.arraylength, 1) := by decide +kernel
theorem dX5_one_100 : decode cX5_one 100 = .ok (.if_icmp .lt 10, 3) := by decide +kernel
theorem dX5_one_110 : decode cX5_one 110 = .ok (.aload_n 0, 1) := by decide +kernel
theorem dX5_one_111 : decode cX5_one 111 = .ok (.dup, 1) := by decide +kernel
theorem dX5_one_112 : decode cX5_one 112 = .ok (.getfield 28, 3) := by decide +kernel
theorem dX5_one_115 : decode cX5_one 115 = .ok (.iconst 1, 1) := by decide +kernel
theorem dX5_one_116 : decode cX5_one 116 = .ok (.iadd, 1) := by decide +kernel
theorem dX5_one_117 : decode cX5_one 117 = .ok (.putfield 28, 3) := by decide +kernel
theorem dX5_one_120 : decode cX5_one 120 = .ok (.aload_n 0, 1) := by decide +kernel
theorem dX5_one_121 : decode cX5_one 121 = .ok (.getfield 9, 3) := by decide +kernel
theorem dX5_one_124 : decode cX5_one 124 = .ok (.iload_n 2, 1) := by decide +kernel
theorem dX5_one_125 : decode cX5_one 125 = .ok (.iaload, 1) := by decide +kernel
theorem dX5_one_126 : decode cX5_one 126 = .ok (.ireturn, 1) := by decide +kernel
theorem dX5_one_66 : decode cX5_one 66 = .ok (.aload_n 0, 1) := by decide +kernel
theorem dX5_one_67 : decode cX5_one 67 = .ok (.invokevirtual 63, 3) := by decide +kernel
theorem dX5_one_70 : decode cX5_one 70 = .ok (.ifCond .ge 7, 3) := by decide +kernel
theorem dX5_one_77 : decode cX5_one 77 = .ok (.aload_n 0, 1) := by decide +kernel
theorem dX5_one_78 : decode cX5_one 78 = .ok (.getfield 24, 3) := by decide +kernel
theorem dX5_one_81 : decode cX5_one 81 = .ok (.aload_n 0, 1) := by decide +kernel
theorem dX5_one_82 : decode cX5_one 82 = .ok (.invokevirtual 63, 3) := by decide +kernel
theorem dX5_one_85 : decode cX5_one 85 = .ok (.i2c, 1) := by decide +kernel
theorem dX5_one_86 : decode cX5_one 86 = .ok (.invokevirtual 82, 3) := by decide +kernel
theorem dX5_one_73 : decode cX5_one 73 = .ok (.iconst (-1), 1) := by decide +kernel
theorem dX5_one_74 : decode cX5_one 74 = .ok (.goto 15, 3) := by decide +kernel
theorem dX5_one_0 : decode cX5_one 0 = .ok (.aload_n 0, 1) := by decide +kernel
theorem dX5_one_1 : decode cX5_one 1 = .ok (.getfield 31, 3) := by decide +kernel
theorem dX5_one_4 : decode cX5_one 4 = .ok (.ifCond .eq 5, 3) := by decide +kernel
theorem dX5_one_9 : decode cX5_one 9 = .ok (.aload_n 0, 1) := by decide +kernel
theorem dX5_one_10 : decode cX5_one 10 = .ok (.invokevirtual 63, 3) := by decide +kernel
theorem dX5_one_13 : decode cX5_one 13 = .ok (.invokestatic 76, 3) := by decide +kernel
theorem dX5_one_16 : decode cX5_one 16 = .ok (.ifCond .eq 8, 3) := by decide +kernel
theorem dX5_one_24 : decode cX5_one 24 = .ok (.iload_n 1, 1) := by decide +kernel
theorem dX5_one_25 : decode cX5_one 25 = .ok (.iconst 4, 1) := by decide +kernel
theorem dX5_one_26 : decode cX5_one 26 = .ok (.if_icmp .ge 40, 3) := by decide +kernel
theorem dX5_one_29 : decode cX5_one 29 = .ok (.aload_n 0, 1) := by decide +kernel
theorem dX5_one_30 : decode cX5_one 30 = .ok (.bipush 40, 2) := by decide +kernel
theorem dX5_one_32 : decode cX5_one 32 = .ok (.invokevirtual 47, 3) := by decide +kernel
theorem dX5_one_35 : decode cX5_one 35 = .ok (.ifCond .eq 31, 3) := by decide +kernel
theorem dX5_one_38 : decode cX5_one 38 = .ok (.aload_n 0, 1) := by decide +kernel
theorem dX5_one_39 : decode cX5_one 39 = .ok (.iload_n 1, 1) := by decide +kernel
theorem dX5_one_40 : decode cX5_one 40 = .ok (.iconst 1, 1) := by decide +kernel
theorem dX5_one_41 : decode cX5_one 41 = .ok (.iadd, 1) := by decide +kernel
theorem dX5_one_42 : decode cX5_one 42 = .ok (.invokevirtual 39, 3) := by decide +kernel
theorem dX5_one_45 : decode cX5_one 45 = .ok (.istore_n 2, 1) := by decide +kernel
theorem dX5_one_46 : decode cX5_one 46 = .ok (.aload_n 0, 1) := by decide +kernel
theorem dX5_one_47 : decode cX5_one 47 = .ok (.aload_n 0, 1) := by decide +kernel
theorem dX5_one_48 : decode cX5_one 48 = .ok (.bipush 41, 2) := by decide +kernel
theorem dX5_one_50 : decode cX5_one 50 = .ok (.invokevirtual 47, 3) := by decide +kernel
theorem dX5_one_53 : decode cX5_one 53 = .ok (.ifCond .ne 7, 3) := by decide +kernel
theorem dX5_one_56 : decode cX5_one 56 = .ok (.iconst 1, 1) := by decide +kernel
theorem dX5_one_57 : decode cX5_one 57 = .ok (.goto 4, 3) := by decide +kernel
theorem dX5_one_61 : decode cX5_one 61 = .ok (.putfield 31, 3) := by decide +kernel
theorem dX5_one_64 : decode cX5_one 64 = .ok (.iload_n 2, 1) := by decide +kernel
theorem dX5_one_65 : decode cX5_one 65 = .ok (.ireturn, 1) := by decide +kernel
theorem dX5_one_60 : decode cX5_one 60 = .ok (.iconst 0, 1) := by decide +kernel
theorem dX5_one_19 : decode cX5_one 19 = .ok (.aload_n 0, 1) := by decide +kernel
theorem dX5_one_20 : decode cX5_one 20 = .ok (.invokevirtual 79, 3) := by decide +kernel
theorem dX5_one_23 : decode cX5_one 23 = .ok (.ireturn, 1) := by decide +kernel
theorem dX5_one_7 : decode cX5_one 7 = .ok (.iconst 0, 1) := by decide +kernel
theorem dX5_one_8 : decode cX5_one 8 = .ok (.ireturn, 1) := by decide +kernel
def D_X5_one_103 (N : Nat) (kB : mh_H → Nat → Int32 → Option (Int32 × mh_H)) (h : mh_H) (l0 : Nat) : Option (Int32 × mh_H) :=
  (pB h 5 l0 5 (1 : Int32)).bind fun h1 =>
  some ((0 : Int32), h1)
set_option maxHeartbeats 4000000 in
set_option maxRecDepth 100000 in
theorem T_X5_one_103 {P : mh_E → Prop} {N d : Nat} (hd : 5 ≤ d) {kB : mh_H → Nat → Int32 → Option (Int32 × mh_H)} {dB : Nat} (hdB : dB + 1 ≤ d) (hB : ∀ (h : mh_H) (x0 : Nat) (x1 : Int32) (z : (Int32 × mh_H)), kB h x0 x1 = some z → mh_go P dB mX5_sum 0 [some (.ref x0), some (.int x1), none, none] [] h (some (.int z.1)) z.2) {z : (Int32 × mh_H)} {h : mh_H} {l0 : Nat} (hq : D_X5_one_103 N kB h l0 = some z) : mh_go P d mX5_one 103 [some (.ref l0), none, none] [] h (some (.int z.1)) z.2 := by
  unfold D_X5_one_103 at hq
  refine st_aload_n (pc := 103) dX5_one_103 rfl ?_
  refine st_iconst (pc := 104) (v := (1 : Int32)) dX5_one_104 rfl ?_
  refine bd_putb (pc := 105) hq dX5_one_105 fl_5_31_5 (Or.inl rfl) rfl (fun h1 hq => ?_)
  refine st_iconst (pc := 108) (v := (0 : Int32)) dX5_one_108 rfl ?_
  exact bd_iret (pc := 109) hq dX5_one_109 rfl
def D_X5_one_89 (N : Nat) (kB : mh_H → Nat → Int32 → Option (Int32 × mh_H)) (h : mh_H) (l0 : Nat) (s0 : Int32) : Option (Int32 × mh_H) :=
  if s0 < 0 then (D_X5_one_103 N kB h l0)
  else ((gR h 5 l0 0).bind fun v1 =>
  (aL h v1).bind fun v2 =>
  if s0 < v2 then ((gI h 5 l0 4).bind fun v3 =>
  (pI h 5 l0 4 (v3 + (1 : Int32))).bind fun h4 =>
  (gR h4 5 l0 0).bind fun v5 =>
  (aI h4 v5 s0).bind fun v6 =>
  some (v6, h4))
  else (D_X5_one_103 N kB h l0))
set_option maxHeartbeats 4000000 in
set_option maxRecDepth 100000 in
theorem T_X5_one_89 {P : mh_E → Prop} {N d : Nat} (hd : 5 ≤ d) {kB : mh_H → Nat → Int32 → Option (Int32 × mh_H)} {dB : Nat} (hdB : dB + 1 ≤ d) (hB : ∀ (h : mh_H) (x0 : Nat) (x1 : Int32) (z : (Int32 × mh_H)), kB h x0 x1 = some z → mh_go P dB mX5_sum 0 [some (.ref x0), some (.int x1), none, none] [] h (some (.int z.1)) z.2) {z : (Int32 × mh_H)} {h : mh_H} {l0 : Nat} {s0 : Int32} (hq : D_X5_one_89 N kB h l0 s0 = some z) : mh_go P d mX5_one 89 [some (.ref l0), none, none] [.int s0] h (some (.int z.1)) z.2 := by
  unfold D_X5_one_89 at hq
  refine st_istore_n (pc := 89) (lv' := [some (.ref l0), none, some (.int s0)]) dX5_one_89 rfl (by decide) rfl ?_
  refine st_iload_n (pc := 90) dX5_one_90 rfl ?_
  refine bd_if_lt (pc := 91) (tgt := 103) hq dX5_one_91 (by decide) (fun _ hq => ?_) (fun _ hq => ?_)
  ·
    refine st_lesS (lv' := [some (.ref l0), none, none]) ⟨Or.inr rfl, Or.inr rfl, Or.inl rfl, trivial⟩ ?_
    exact T_X5_one_103 hd hdB hB hq
  ·
    refine st_iload_n (pc := 94) dX5_one_94 rfl ?_
    refine st_aload_n (pc := 95) dX5_one_95 rfl ?_
    refine bd_getr (pc := 96) hq dX5_one_96 fl_5_9_5 rfl (fun v1 hq => ?_)
    refine bd_alen (pc := 99) hq dX5_one_99 (fun v2 hq => ?_)
    refine bd_icmp_lt (pc := 100) (tgt := 110) hq dX5_one_100 (by decide) (fun _ hq => ?_) (fun _ hq => ?_)
    ·
      refine st_aload_n (pc := 110) dX5_one_110 rfl ?_
      refine st_dup (pc := 111) dX5_one_111 rfl ?_
      refine bd_geti (pc := 112) hq dX5_one_112 fl_5_28_5 rfl (fun v3 hq => ?_)
      refine st_iconst (pc := 115) (v := (1 : Int32)) dX5_one_115 rfl ?_
      refine st_iadd (pc := 116) dX5_one_116 ?_
      refine bd_puti (pc := 117) hq dX5_one_117 fl_5_28_5 (Or.inl rfl) rfl (fun h4 hq => ?_)
      refine st_aload_n (pc := 120) dX5_one_120 rfl ?_
      refine bd_getr (pc := 121) hq dX5_one_121 fl_5_9_5 rfl (fun v5 hq => ?_)
      refine st_iload_n (pc := 124) dX5_one_124 rfl ?_
      refine bd_iald (pc := 125) hq dX5_one_125 (fun v6 hq => ?_)
      exact bd_iret (pc := 126) hq dX5_one_126 rfl
    ·
      refine st_lesS (lv' := [some (.ref l0), none, none]) ⟨Or.inr rfl, Or.inr rfl, Or.inl rfl, trivial⟩ ?_
      exact T_X5_one_103 hd hdB hB hq
def D_X5_one_66 (N : Nat) (kB : mh_H → Nat → Int32 → Option (Int32 × mh_H)) (h : mh_H) (l0 : Nat) : Option (Int32 × mh_H) :=
  kO h 5 l0 <|
  (D_X5_next N h l0).bind fun q1 =>
  if 0 ≤ q1.1 then ((gR q1.2 5 l0 3).bind fun v2 =>
  kO q1.2 5 l0 <|
  (D_X5_next N q1.2 l0).bind fun q3 =>
  kS v2 <|
  (D_J0_indexOf_0f7a4 N q3.2 v2 ((q3.1.toUInt32 % 65536).toInt32)).bind fun q4 =>
  D_X5_one_89 N kB q4.2 l0 q4.1)
  else (D_X5_one_89 N kB q1.2 l0 (-1 : Int32))
set_option maxHeartbeats 4000000 in
set_option maxRecDepth 100000 in
theorem T_X5_one_66 {P : mh_E → Prop} {N d : Nat} (hd : 5 ≤ d) {kB : mh_H → Nat → Int32 → Option (Int32 × mh_H)} {dB : Nat} (hdB : dB + 1 ≤ d) (hB : ∀ (h : mh_H) (x0 : Nat) (x1 : Int32) (z : (Int32 × mh_H)), kB h x0 x1 = some z → mh_go P dB mX5_sum 0 [some (.ref x0), some (.int x1), none, none] [] h (some (.int z.1)) z.2) {z : (Int32 × mh_H)} {h : mh_H} {l0 : Nat} (hq : D_X5_one_66 N kB h l0 = some z) : mh_go P d mX5_one 66 [some (.ref l0), none, none] [] h (some (.int z.1)) z.2 := by
  unfold D_X5_one_66 at hq
  refine st_aload_n (pc := 66) dX5_one_66 rfl ?_
  obtain ⟨⟨hbq1, hkq1⟩, hq⟩ := mh_oi hq
  obtain ⟨q1, e1, hq⟩ := mh_ob hq
  refine st_invV (pc := 67) (ci := 5) (vs := []) (rest := []) (st2 := [.int q1.1]) dX5_one_67 okX5_next (by decide) hkq1 hbq1 wd_556 wd_558 wp_9 pdX5_next rfl rfl rfl rfl (Nat.le_trans (by decide) hd) (Nat.le_of_ble_eq_true rfl) (T_X5_next (Nat.le_refl _) e1) rfl ?_
  refine bd_if_ge (pc := 70) (tgt := 77) hq dX5_one_70 (by decide) (fun _ hq => ?_) (fun _ hq => ?_)
  ·
    refine st_aload_n (pc := 77) dX5_one_77 rfl ?_
    refine bd_getr (pc := 78) hq dX5_one_78 fl_5_24_5 rfl (fun v2 hq => ?_)
    refine st_aload_n (pc := 81) dX5_one_81 rfl ?_
    obtain ⟨⟨hbq3, hkq3⟩, hq⟩ := mh_oi hq
    obtain ⟨q3, e3, hq⟩ := mh_ob hq
    refine st_invV (pc := 82) (ci := 5) (vs := []) (rest := [.ref v2]) (st2 := [.int q3.1, .ref v2]) dX5_one_82 okX5_next (by decide) hkq3 hbq3 wd_556 wd_558 wp_9 pdX5_next rfl rfl rfl rfl (Nat.le_trans (by decide) hd) (Nat.le_of_ble_eq_true rfl) (T_X5_next (Nat.le_refl _) e3) rfl ?_
    refine st_i2c (pc := 85) dX5_one_85 ?_
    obtain ⟨hSq4, hq⟩ := mh_oi hq
    obtain ⟨q4, e4, hq⟩ := mh_ob hq
    refine st_invT (pc := 86) (vs := [.int ((q3.1.toUInt32 % 65536).toInt32)]) (rest := []) (st2 := [.int q4.1]) dX5_one_86 okJ0_indexOf_0f7a4 hSq4 wd_571 wd_572 wd_573 pdJ0_indexOf_0f7a4 rfl rfl rfl rfl (Nat.le_trans (by decide) hd) (Nat.le_of_ble_eq_true rfl) (T_J0_indexOf_0f7a4 (Nat.le_refl _) e4) rfl ?_
    exact T_X5_one_89 hd hdB hB hq
  ·
    refine st_iconst (pc := 73) (v := (-1 : Int32)) dX5_one_73 rfl ?_
    refine st_goto (pc := 74) (tgt := 89) dX5_one_74 (by decide) ?_
    exact T_X5_one_89 hd hdB hB hq
def D_X5_one (N : Nat) (kB : mh_H → Nat → Int32 → Option (Int32 × mh_H)) (h : mh_H) (l0 : Nat) (l1 : Int32) : Option (Int32 × mh_H) :=
  (gI h 5 l0 5).bind fun v1 =>
  if v1 = 0 then (kO h 5 l0 <|
  (D_X5_next N h l0).bind fun q2 =>
  (D_X5_isDigit N q2.2 q2.1).bind fun q3 =>
  if q3.1 = 0 then (if (4 : Int32) ≤ l1 then (D_X5_one_66 N kB q3.2 l0)
  else (kO q3.2 5 l0 <|
  (D_X5_take N q3.2 l0 (40 : Int32)).bind fun q4 =>
  if q4.1 = 0 then (D_X5_one_66 N kB q4.2 l0)
  else (kO q4.2 5 l0 <|
  (kB q4.2 l0 (l1 + (1 : Int32))).bind fun q5 =>
  kO q5.2 5 l0 <|
  (D_X5_take N q5.2 l0 (41 : Int32)).bind fun q6 =>
  if q6.1 = 0 then ((pB q6.2 5 l0 5 (1 : Int32)).bind fun h7 =>
  some (q5.1, h7))
  else ((pB q6.2 5 l0 5 (0 : Int32)).bind fun h7 =>
  some (q5.1, h7)))))
  else (kO q3.2 5 l0 <|
  (D_X5_number N q3.2 l0).bind fun q4 =>
  some (q4.1, q4.2)))
  else (some ((0 : Int32), h))
set_option maxHeartbeats 4000000 in
set_option maxRecDepth 100000 in
theorem T_X5_one {P : mh_E → Prop} {N d : Nat} (hd : 5 ≤ d) {kB : mh_H → Nat → Int32 → Option (Int32 × mh_H)} {dB : Nat} (hdB : dB + 1 ≤ d) (hB : ∀ (h : mh_H) (x0 : Nat) (x1 : Int32) (z : (Int32 × mh_H)), kB h x0 x1 = some z → mh_go P dB mX5_sum 0 [some (.ref x0), some (.int x1), none, none] [] h (some (.int z.1)) z.2) {z : (Int32 × mh_H)} {h : mh_H} {l0 : Nat} {l1 : Int32} (hq : D_X5_one N kB h l0 l1 = some z) : mh_go P d mX5_one 0 [some (.ref l0), some (.int l1), none] [] h (some (.int z.1)) z.2 := by
  unfold D_X5_one at hq
  refine st_aload_n (pc := 0) dX5_one_0 rfl ?_
  refine bd_geti (pc := 1) hq dX5_one_1 fl_5_31_5 rfl (fun v1 hq => ?_)
  refine bd_if_eq (pc := 4) (tgt := 9) hq dX5_one_4 (by decide) (fun _ hq => ?_) (fun _ hq => ?_)
  ·
    refine st_aload_n (pc := 9) dX5_one_9 rfl ?_
    obtain ⟨⟨hbq2, hkq2⟩, hq⟩ := mh_oi hq
    obtain ⟨q2, e2, hq⟩ := mh_ob hq
    refine st_invV (pc := 10) (ci := 5) (vs := []) (rest := []) (st2 := [.int q2.1]) dX5_one_10 okX5_next (by decide) hkq2 hbq2 wd_556 wd_558 wp_9 pdX5_next rfl rfl rfl rfl (Nat.le_trans (by decide) hd) (Nat.le_of_ble_eq_true rfl) (T_X5_next (Nat.le_refl _) e2) rfl ?_
    obtain ⟨q3, e3, hq⟩ := mh_ob hq
    refine st_invS (pc := 13) (Y := mX5_isDigit) (vs := [.int q2.1]) (rest := []) (st2 := [.int q3.1]) dX5_one_13 okX5_isDigit wd_560 wd_561 pdX5_isDigit rfl rfl rfl rfl (Nat.le_trans (by decide) hd) (Nat.le_of_ble_eq_true rfl) (T_X5_isDigit (Nat.le_refl _) e3) rfl ?_
    refine bd_if_eq (pc := 16) (tgt := 24) hq dX5_one_16 (by decide) (fun _ hq => ?_) (fun _ hq => ?_)
    ·
      refine st_iload_n (pc := 24) dX5_one_24 rfl ?_
      refine st_iconst (pc := 25) (v := (4 : Int32)) dX5_one_25 rfl ?_
      refine bd_icmp_ge (pc := 26) (tgt := 66) hq dX5_one_26 (by decide) (fun _ hq => ?_) (fun _ hq => ?_)
      ·
        refine st_lesS (lv' := [some (.ref l0), none, none]) ⟨Or.inr rfl, Or.inl rfl, Or.inr rfl, trivial⟩ ?_
        exact T_X5_one_66 hd hdB hB hq
      ·
        refine st_aload_n (pc := 29) dX5_one_29 rfl ?_
        refine st_bipush (pc := 30) (v := (40 : Int32)) dX5_one_30 (by decide) ?_
        obtain ⟨⟨hbq4, hkq4⟩, hq⟩ := mh_oi hq
        obtain ⟨q4, e4, hq⟩ := mh_ob hq
        refine st_invV (pc := 32) (ci := 5) (vs := [.int (40 : Int32)]) (rest := []) (st2 := [.int q4.1]) dX5_one_32 okX5_take (by decide) hkq4 hbq4 wd_567 wd_569 wp_11 pdX5_take rfl rfl rfl rfl (Nat.le_trans (by decide) hd) (Nat.le_of_ble_eq_true rfl) (T_X5_take (Nat.le_refl _) e4) rfl ?_
        refine bd_if_eq (pc := 35) (tgt := 66) hq dX5_one_35 (by decide) (fun _ hq => ?_) (fun _ hq => ?_)
        ·
          refine st_lesS (lv' := [some (.ref l0), none, none]) ⟨Or.inr rfl, Or.inl rfl, Or.inr rfl, trivial⟩ ?_
          exact T_X5_one_66 hd hdB hB hq
        ·
          refine st_aload_n (pc := 38) dX5_one_38 rfl ?_
          refine st_iload_n (pc := 39) dX5_one_39 rfl ?_
          refine st_iconst (pc := 40) (v := (1 : Int32)) dX5_one_40 rfl ?_
          refine st_iadd (pc := 41) dX5_one_41 ?_
          obtain ⟨⟨hbq5, hkq5⟩, hq⟩ := mh_oi hq
          obtain ⟨q5, e5, hq⟩ := mh_ob hq
          refine st_invV (pc := 42) (ci := 5) (vs := [.int (l1 + (1 : Int32))]) (rest := []) (st2 := [.int q5.1]) dX5_one_42 okX5_sum (by decide) hkq5 hbq5 wd_544 wd_546 wp_6 pdX5_sum rfl rfl rfl rfl (by omega) (Nat.le_of_ble_eq_true rfl) (hB _ _ _ _ e5) rfl ?_
          refine st_istore_n (pc := 45) (lv' := [some (.ref l0), some (.int l1), some (.int q5.1)]) dX5_one_45 rfl (by decide) rfl ?_
          refine st_aload_n (pc := 46) dX5_one_46 rfl ?_
          refine st_aload_n (pc := 47) dX5_one_47 rfl ?_
          refine st_bipush (pc := 48) (v := (41 : Int32)) dX5_one_48 (by decide) ?_
          obtain ⟨⟨hbq6, hkq6⟩, hq⟩ := mh_oi hq
          obtain ⟨q6, e6, hq⟩ := mh_ob hq
          refine st_invV (pc := 50) (ci := 5) (vs := [.int (41 : Int32)]) (rest := [.ref l0]) (st2 := [.int q6.1, .ref l0]) dX5_one_50 okX5_take (by decide) hkq6 hbq6 wd_567 wd_569 wp_11 pdX5_take rfl rfl rfl rfl (Nat.le_trans (by decide) hd) (Nat.le_of_ble_eq_true rfl) (T_X5_take (Nat.le_refl _) e6) rfl ?_
          refine bd_if_ne (pc := 53) (tgt := 60) hq dX5_one_53 (by decide) (fun _ hq => ?_) (fun _ hq => ?_)
          ·
            refine st_iconst (pc := 56) (v := (1 : Int32)) dX5_one_56 rfl ?_
            refine st_goto (pc := 57) (tgt := 61) dX5_one_57 (by decide) ?_
            refine bd_putb (pc := 61) hq dX5_one_61 fl_5_31_5 (Or.inl rfl) rfl (fun h7 hq => ?_)
            refine st_iload_n (pc := 64) dX5_one_64 rfl ?_
            exact bd_iret (pc := 65) hq dX5_one_65 rfl
          ·
            refine st_iconst (pc := 60) (v := (0 : Int32)) dX5_one_60 rfl ?_
            refine bd_putb (pc := 61) hq dX5_one_61 fl_5_31_5 (Or.inl rfl) rfl (fun h7 hq => ?_)
            refine st_iload_n (pc := 64) dX5_one_64 rfl ?_
            exact bd_iret (pc := 65) hq dX5_one_65 rfl
    ·
      refine st_aload_n (pc := 19) dX5_one_19 rfl ?_
      obtain ⟨⟨hbq4, hkq4⟩, hq⟩ := mh_oi hq
      obtain ⟨q4, e4, hq⟩ := mh_ob hq
      refine st_invV (pc := 20) (ci := 5) (vs := []) (rest := []) (st2 := [.int q4.1]) dX5_one_20 okX5_number (by decide) hkq4 hbq4 wd_563 wd_565 wp_10 pdX5_number rfl rfl rfl rfl (Nat.le_trans (by decide) hd) (Nat.le_of_ble_eq_true rfl) (T_X5_number (Nat.le_refl _) e4) rfl ?_
      exact bd_iret (pc := 23) hq dX5_one_23 rfl
  ·
    refine st_iconst (pc := 7) (v := (0 : Int32)) dX5_one_7 rfl ?_
    exact bd_iret (pc := 8) hq dX5_one_8 rfl
-- HoleWater$Reader.term(I)I
theorem dX5_term_58 : decode cX5_term 58 = .ok (.iinc 3 1, 3) := by decide +kernel
theorem dX5_term_61 : decode cX5_term 61 = .ok (.goto (-53), 3) := by decide +kernel
theorem dX5_term_8 : decode cX5_term 8 = .ok (.iload_n 3, 1) := by decide +kernel
theorem dX5_term_9 : decode cX5_term 9 = .ok (.bipush 60, 2) := by decide +kernel
theorem dX5_term_11 : decode cX5_term 11 = .ok (.if_icmp .ge 53, 3) := by decide +kernel
theorem dX5_term_64 : decode cX5_term 64 = .ok (.iload_n 2, 1) := by decide +kernel
theorem dX5_term_65 : decode cX5_term 65 = .ok (.ireturn, 1) := by decide +kernel
theorem dX5_term_14 : decode cX5_term 14 = .ok (.aload_n 0, 1) := by decide +kernel
theorem dX5_term_15 : decode cX5_term 15 = .ok (.bipush 42, 2) := by decide +kernel
theorem dX5_term_17 : decode cX5_term 17 = .ok (.invokevirtual 47, 3) := by decide +kernel
theorem dX5_term_20 : decode cX5_term 20 = .ok (.ifCond .eq 14, 3) := by decide +kernel
theorem dX5_term_34 : decode cX5_term 34 = .ok (.aload_n 0, 1) := by decide +kernel
theorem dX5_term_35 : decode cX5_term 35 = .ok (.bipush 47, 2) := by decide +kernel
theorem dX5_term_37 : decode cX5_term 37 = .ok (.invokevirtual 47, 3) := by decide +kernel
theorem dX5_term_40 : decode cX5_term 40 = .ok (.ifCond .eq 16, 3) := by decide +kernel
theorem dX5_term_56 : decode cX5_term 56 = .ok (.iload_n 2, 1) := by decide +kernel
theorem dX5_term_57 : decode cX5_term 57 = .ok (.ireturn, 1) := by decide +kernel
theorem dX5_term_43 : decode cX5_term 43 = .ok (.iload_n 2, 1) := by decide +kernel
theorem dX5_term_44 : decode cX5_term 44 = .ok (.aload_n 0, 1) := by decide +kernel
theorem dX5_term_45 : decode cX5_term 45 = .ok (.iload_n 1, 1) := by decide +kernel
theorem dX5_term_46 : decode cX5_term 46 = .ok (.invokevirtual 70, 3) := by decide +kernel
theorem dX5_term_49 : decode cX5_term 49 = .ok (.invokestatic 73, 3) := by decide +kernel
theorem dX5_term_52 : decode cX5_term 52 = .ok (.istore_n 2, 1) := by decide +kernel
theorem dX5_term_53 : decode cX5_term 53 = .ok (.goto 5, 3) := by decide +kernel
theorem dX5_term_23 : decode cX5_term 23 = .ok (.iload_n 2, 1) := by decide +kernel
theorem dX5_term_24 : decode cX5_term 24 = .ok (.aload_n 0, 1) := by decide +kernel
theorem dX5_term_25 : decode cX5_term 25 = .ok (.iload_n 1, 1) := by decide +kernel
theorem dX5_term_26 : decode cX5_term 26 = .ok (.invokevirtual 70, 3) := by decide +kernel
theorem dX5_term_29 : decode cX5_term 29 = .ok (.imul, 1) := by decide +kernel
theorem dX5_term_30 : decode cX5_term 30 = .ok (.istore_n 2, 1) := by decide +kernel
theorem dX5_term_31 : decode cX5_term 31 = .ok (.goto 27, 3) := by decide +kernel
theorem dX5_term_0 : decode cX5_term 0 = .ok (.aload_n 0, 1) := by decide +kernel
theorem dX5_term_1 : decode cX5_term 1 = .ok (.iload_n 1, 1) := by decide +kernel
theorem dX5_term_2 : decode cX5_term 2 = .ok (.invokevirtual 70, 3) := by decide +kernel
theorem dX5_term_5 : decode cX5_term 5 = .ok (.istore_n 2, 1) := by decide +kernel
theorem dX5_term_6 : decode cX5_term 6 = .ok (.iconst 0, 1) := by decide +kernel
theorem dX5_term_7 : decode cX5_term 7 = .ok (.istore_n 3, 1) := by decide +kernel
def D_X5_term_58 (N : Nat) (kB : mh_H → Nat → Int32 → Option (Int32 × mh_H)) (k8 : mh_H → Nat → Int32 → Int32 → Int32 → Option (Int32 × mh_H)) (h : mh_H) (l0 : Nat) (l1 : Int32) (l2 : Int32) (l3 : Int32) : Option (Int32 × mh_H) :=
  k8 h l0 l1 l2 (l3 + Int32.ofInt (1))
set_option maxHeartbeats 4000000 in
set_option maxRecDepth 100000 in
theorem T_X5_term_58 {P : mh_E → Prop} {N d : Nat} (hd : 6 ≤ d) {kB : mh_H → Nat → Int32 → Option (Int32 × mh_H)} {dB : Nat} (hdB : dB + 2 ≤ d) (hB : ∀ (h : mh_H) (x0 : Nat) (x1 : Int32) (z : (Int32 × mh_H)), kB h x0 x1 = some z → mh_go P dB mX5_sum 0 [some (.ref x0), some (.int x1), none, none] [] h (some (.int z.1)) z.2) {z : (Int32 × mh_H)} {k8 : mh_H → Nat → Int32 → Int32 → Int32 → Option (Int32 × mh_H)} (hk8 : ∀ (h : mh_H) (l0 : Nat) (l1 : Int32) (l2 : Int32) (l3 : Int32), k8 h l0 l1 l2 l3 = some z → mh_go P d mX5_term 8 [some (.ref l0), some (.int l1), some (.int l2), some (.int l3)] [] h (some (.int z.1)) z.2) {h : mh_H} {l0 : Nat} {l1 : Int32} {l2 : Int32} {l3 : Int32} (hq : D_X5_term_58 N kB k8 h l0 l1 l2 l3 = some z) : mh_go P d mX5_term 58 [some (.ref l0), some (.int l1), some (.int l2), some (.int l3)] [] h (some (.int z.1)) z.2 := by
  unfold D_X5_term_58 at hq
  refine st_iinc (pc := 58) (lv' := [some (.ref l0), some (.int l1), some (.int l2), some (.int (l3 + Int32.ofInt (1)))]) dX5_term_58 rfl rfl (by decide) rfl ?_
  refine st_goto (pc := 61) (tgt := 8) dX5_term_61 (by decide) ?_
  exact hk8 _ _ _ _ _ hq
def D_X5_term_8 (N : Nat) (kB : mh_H → Nat → Int32 → Option (Int32 × mh_H)) : Nat → mh_H → Nat → Int32 → Int32 → Int32 → Option (Int32 × mh_H)
  | 0, _, _, _, _, _ => none
  | F + 1, h, l0, l1, l2, l3 =>
    if (60 : Int32) ≤ l3 then (some (l2, h))
    else (kO h 5 l0 <|
    (D_X5_take N h l0 (42 : Int32)).bind fun q1 =>
    if q1.1 = 0 then (kO q1.2 5 l0 <|
    (D_X5_take N q1.2 l0 (47 : Int32)).bind fun q2 =>
    if q2.1 = 0 then (some (l2, q2.2))
    else (kO q2.2 5 l0 <|
    (D_X5_one N kB q2.2 l0 l1).bind fun q3 =>
    (D_X11_by N q3.2 l2 q3.1).bind fun q4 =>
    D_X5_term_58 N kB (D_X5_term_8 N kB F) q4.2 l0 l1 q4.1 l3))
    else (kO q1.2 5 l0 <|
    (D_X5_one N kB q1.2 l0 l1).bind fun q2 =>
    D_X5_term_58 N kB (D_X5_term_8 N kB F) q2.2 l0 l1 (l2 * q2.1) l3))
set_option maxHeartbeats 4000000 in
set_option maxRecDepth 100000 in
theorem T_X5_term_8 {P : mh_E → Prop} {N d : Nat} (hd : 6 ≤ d) {kB : mh_H → Nat → Int32 → Option (Int32 × mh_H)} {dB : Nat} (hdB : dB + 2 ≤ d) (hB : ∀ (h : mh_H) (x0 : Nat) (x1 : Int32) (z : (Int32 × mh_H)), kB h x0 x1 = some z → mh_go P dB mX5_sum 0 [some (.ref x0), some (.int x1), none, none] [] h (some (.int z.1)) z.2) {z : (Int32 × mh_H)} : ∀ (F : Nat) (h : mh_H) (l0 : Nat) (l1 : Int32) (l2 : Int32) (l3 : Int32), D_X5_term_8 N kB F h l0 l1 l2 l3 = some z → mh_go P d mX5_term 8 [some (.ref l0), some (.int l1), some (.int l2), some (.int l3)] [] h (some (.int z.1)) z.2 := by
  intro F
  induction F with
  | zero => intro h l0 l1 l2 l3 hq; rw [D_X5_term_8] at hq; cases hq
  | succ F ih =>
    intro h l0 l1 l2 l3 hq
    rw [D_X5_term_8] at hq
    refine st_iload_n (pc := 8) dX5_term_8 rfl ?_
    refine st_bipush (pc := 9) (v := (60 : Int32)) dX5_term_9 (by decide) ?_
    refine bd_icmp_ge (pc := 11) (tgt := 64) hq dX5_term_11 (by decide) (fun _ hq => ?_) (fun _ hq => ?_)
    ·
      refine st_iload_n (pc := 64) dX5_term_64 rfl ?_
      exact bd_iret (pc := 65) hq dX5_term_65 rfl
    ·
      refine st_aload_n (pc := 14) dX5_term_14 rfl ?_
      refine st_bipush (pc := 15) (v := (42 : Int32)) dX5_term_15 (by decide) ?_
      obtain ⟨⟨hbq1, hkq1⟩, hq⟩ := mh_oi hq
      obtain ⟨q1, e1, hq⟩ := mh_ob hq
      refine st_invV (pc := 17) (ci := 5) (vs := [.int (42 : Int32)]) (rest := []) (st2 := [.int q1.1]) dX5_term_17 okX5_take (by decide) hkq1 hbq1 wd_567 wd_569 wp_11 pdX5_take rfl rfl rfl rfl (Nat.le_trans (by decide) hd) (Nat.le_of_ble_eq_true rfl) (T_X5_take (Nat.le_refl _) e1) rfl ?_
      refine bd_if_eq (pc := 20) (tgt := 34) hq dX5_term_20 (by decide) (fun _ hq => ?_) (fun _ hq => ?_)
      ·
        refine st_aload_n (pc := 34) dX5_term_34 rfl ?_
        refine st_bipush (pc := 35) (v := (47 : Int32)) dX5_term_35 (by decide) ?_
        obtain ⟨⟨hbq2, hkq2⟩, hq⟩ := mh_oi hq
        obtain ⟨q2, e2, hq⟩ := mh_ob hq
        refine st_invV (pc := 37) (ci := 5) (vs := [.int (47 : Int32)]) (rest := []) (st2 := [.int q2.1]) dX5_term_37 okX5_take (by decide) hkq2 hbq2 wd_567 wd_569 wp_11 pdX5_take rfl rfl rfl rfl (Nat.le_trans (by decide) hd) (Nat.le_of_ble_eq_true rfl) (T_X5_take (Nat.le_refl _) e2) rfl ?_
        refine bd_if_eq (pc := 40) (tgt := 56) hq dX5_term_40 (by decide) (fun _ hq => ?_) (fun _ hq => ?_)
        ·
          refine st_iload_n (pc := 56) dX5_term_56 rfl ?_
          exact bd_iret (pc := 57) hq dX5_term_57 rfl
        ·
          refine st_iload_n (pc := 43) dX5_term_43 rfl ?_
          refine st_aload_n (pc := 44) dX5_term_44 rfl ?_
          refine st_iload_n (pc := 45) dX5_term_45 rfl ?_
          obtain ⟨⟨hbq3, hkq3⟩, hq⟩ := mh_oi hq
          obtain ⟨q3, e3, hq⟩ := mh_ob hq
          refine st_invV (pc := 46) (ci := 5) (vs := [.int l1]) (rest := [.int l2]) (st2 := [.int q3.1, .int l2]) dX5_term_46 okX5_one (by decide) hkq3 hbq3 wd_552 wd_554 wp_8 pdX5_one rfl rfl rfl rfl (by omega) (Nat.le_of_ble_eq_true rfl) (T_X5_one (d := d - 1) (by omega) (by omega) hB e3) rfl ?_
          obtain ⟨q4, e4, hq⟩ := mh_ob hq
          refine st_invSN (pc := 49) (Y := mX11_by) (vs := [.int l2, .int q3.1]) (rest := []) (st2 := [.int q4.1]) dX5_term_49 okX11_by wn_653 wd_527 pdX11_by rfl rfl rfl rfl (Nat.le_trans (by decide) hd) (Nat.le_of_ble_eq_true rfl) (T_X11_by (Nat.le_refl _) e4) rfl ?_
          refine st_istore_n (pc := 52) (lv' := [some (.ref l0), some (.int l1), some (.int q4.1), some (.int l3)]) dX5_term_52 rfl (by decide) rfl ?_
          refine st_goto (pc := 53) (tgt := 58) dX5_term_53 (by decide) ?_
          exact T_X5_term_58 hd hdB hB ih hq
      ·
        refine st_iload_n (pc := 23) dX5_term_23 rfl ?_
        refine st_aload_n (pc := 24) dX5_term_24 rfl ?_
        refine st_iload_n (pc := 25) dX5_term_25 rfl ?_
        obtain ⟨⟨hbq2, hkq2⟩, hq⟩ := mh_oi hq
        obtain ⟨q2, e2, hq⟩ := mh_ob hq
        refine st_invV (pc := 26) (ci := 5) (vs := [.int l1]) (rest := [.int l2]) (st2 := [.int q2.1, .int l2]) dX5_term_26 okX5_one (by decide) hkq2 hbq2 wd_552 wd_554 wp_8 pdX5_one rfl rfl rfl rfl (by omega) (Nat.le_of_ble_eq_true rfl) (T_X5_one (d := d - 1) (by omega) (by omega) hB e2) rfl ?_
        refine st_imul (pc := 29) dX5_term_29 ?_
        refine st_istore_n (pc := 30) (lv' := [some (.ref l0), some (.int l1), some (.int (l2 * q2.1)), some (.int l3)]) dX5_term_30 rfl (by decide) rfl ?_
        refine st_goto (pc := 31) (tgt := 58) dX5_term_31 (by decide) ?_
        exact T_X5_term_58 hd hdB hB ih hq
def D_X5_term (N : Nat) (kB : mh_H → Nat → Int32 → Option (Int32 × mh_H)) (h : mh_H) (l0 : Nat) (l1 : Int32) : Option (Int32 × mh_H) :=
  kO h 5 l0 <|
  (D_X5_one N kB h l0 l1).bind fun q1 =>
  D_X5_term_8 N kB N q1.2 l0 l1 q1.1 (0 : Int32)
set_option maxHeartbeats 4000000 in
set_option maxRecDepth 100000 in
theorem T_X5_term {P : mh_E → Prop} {N d : Nat} (hd : 6 ≤ d) {kB : mh_H → Nat → Int32 → Option (Int32 × mh_H)} {dB : Nat} (hdB : dB + 2 ≤ d) (hB : ∀ (h : mh_H) (x0 : Nat) (x1 : Int32) (z : (Int32 × mh_H)), kB h x0 x1 = some z → mh_go P dB mX5_sum 0 [some (.ref x0), some (.int x1), none, none] [] h (some (.int z.1)) z.2) {z : (Int32 × mh_H)} {h : mh_H} {l0 : Nat} {l1 : Int32} (hq : D_X5_term N kB h l0 l1 = some z) : mh_go P d mX5_term 0 [some (.ref l0), some (.int l1), none, none] [] h (some (.int z.1)) z.2 := by
  unfold D_X5_term at hq
  refine st_aload_n (pc := 0) dX5_term_0 rfl ?_
  refine st_iload_n (pc := 1) dX5_term_1 rfl ?_
  obtain ⟨⟨hbq1, hkq1⟩, hq⟩ := mh_oi hq
  obtain ⟨q1, e1, hq⟩ := mh_ob hq
  refine st_invV (pc := 2) (ci := 5) (vs := [.int l1]) (rest := []) (st2 := [.int q1.1]) dX5_term_2 okX5_one (by decide) hkq1 hbq1 wd_552 wd_554 wp_8 pdX5_one rfl rfl rfl rfl (by omega) (Nat.le_of_ble_eq_true rfl) (T_X5_one (d := d - 1) (by omega) (by omega) hB e1) rfl ?_
  refine st_istore_n (pc := 5) (lv' := [some (.ref l0), some (.int l1), some (.int q1.1), none]) dX5_term_5 rfl (by decide) rfl ?_
  refine st_iconst (pc := 6) (v := (0 : Int32)) dX5_term_6 rfl ?_
  refine st_istore_n (pc := 7) (lv' := [some (.ref l0), some (.int l1), some (.int q1.1), some (.int (0 : Int32))]) dX5_term_7 rfl (by decide) rfl ?_
  exact T_X5_term_8 hd hdB hB N _ _ _ _ _ hq
-- HoleWater$Reader.sum(I)I
theorem dX5_sum_56 : decode cX5_sum 56 = .ok (.iinc 3 1, 3) := by decide +kernel
theorem dX5_sum_59 : decode cX5_sum 59 = .ok (.goto (-51), 3) := by decide +kernel
theorem dX5_sum_8 : decode cX5_sum 8 = .ok (.iload_n 3, 1) := by decide +kernel
theorem dX5_sum_9 : decode cX5_sum 9 = .ok (.bipush 60, 2) := by decide +kernel
theorem dX5_sum_11 : decode cX5_sum 11 = .ok (.if_icmp .ge 51, 3) := by decide +kernel
theorem dX5_sum_62 : decode cX5_sum 62 = .ok (.iload_n 2, 1) := by decide +kernel
theorem dX5_sum_63 : decode cX5_sum 63 = .ok (.ireturn, 1) := by decide +kernel
theorem dX5_sum_14 : decode cX5_sum 14 = .ok (.aload_n 0, 1) := by decide +kernel
theorem dX5_sum_15 : decode cX5_sum 15 = .ok (.bipush 43, 2) := by decide +kernel
theorem dX5_sum_17 : decode cX5_sum 17 = .ok (.invokevirtual 47, 3) := by decide +kernel
theorem dX5_sum_20 : decode cX5_sum 20 = .ok (.ifCond .eq 14, 3) := by decide +kernel
theorem dX5_sum_34 : decode cX5_sum 34 = .ok (.aload_n 0, 1) := by decide +kernel
theorem dX5_sum_35 : decode cX5_sum 35 = .ok (.bipush 45, 2) := by decide +kernel
theorem dX5_sum_37 : decode cX5_sum 37 = .ok (.invokevirtual 47, 3) := by decide +kernel
theorem dX5_sum_40 : decode cX5_sum 40 = .ok (.ifCond .eq 14, 3) := by decide +kernel
theorem dX5_sum_54 : decode cX5_sum 54 = .ok (.iload_n 2, 1) := by decide +kernel
theorem dX5_sum_55 : decode cX5_sum 55 = .ok (.ireturn, 1) := by decide +kernel
theorem dX5_sum_43 : decode cX5_sum 43 = .ok (.iload_n 2, 1) := by decide +kernel
theorem dX5_sum_44 : decode cX5_sum 44 = .ok (.aload_n 0, 1) := by decide +kernel
theorem dX5_sum_45 : decode cX5_sum 45 = .ok (.iload_n 1, 1) := by decide +kernel
theorem dX5_sum_46 : decode cX5_sum 46 = .ok (.invokevirtual 67, 3) := by decide +kernel
theorem dX5_sum_49 : decode cX5_sum 49 = .ok (.isub, 1) := by decide +kernel
theorem dX5_sum_50 : decode cX5_sum 50 = .ok (.istore_n 2, 1) := by decide +kernel
theorem dX5_sum_51 : decode cX5_sum 51 = .ok (.goto 5, 3) := by decide +kernel
theorem dX5_sum_23 : decode cX5_sum 23 = .ok (.iload_n 2, 1) := by decide +kernel
theorem dX5_sum_24 : decode cX5_sum 24 = .ok (.aload_n 0, 1) := by decide +kernel
theorem dX5_sum_25 : decode cX5_sum 25 = .ok (.iload_n 1, 1) := by decide +kernel
theorem dX5_sum_26 : decode cX5_sum 26 = .ok (.invokevirtual 67, 3) := by decide +kernel
theorem dX5_sum_29 : decode cX5_sum 29 = .ok (.iadd, 1) := by decide +kernel
theorem dX5_sum_30 : decode cX5_sum 30 = .ok (.istore_n 2, 1) := by decide +kernel
theorem dX5_sum_31 : decode cX5_sum 31 = .ok (.goto 25, 3) := by decide +kernel
theorem dX5_sum_0 : decode cX5_sum 0 = .ok (.aload_n 0, 1) := by decide +kernel
theorem dX5_sum_1 : decode cX5_sum 1 = .ok (.iload_n 1, 1) := by decide +kernel
theorem dX5_sum_2 : decode cX5_sum 2 = .ok (.invokevirtual 67, 3) := by decide +kernel
theorem dX5_sum_5 : decode cX5_sum 5 = .ok (.istore_n 2, 1) := by decide +kernel
theorem dX5_sum_6 : decode cX5_sum 6 = .ok (.iconst 0, 1) := by decide +kernel
theorem dX5_sum_7 : decode cX5_sum 7 = .ok (.istore_n 3, 1) := by decide +kernel
def D_X5_sum_56 (N : Nat) (kB : mh_H → Nat → Int32 → Option (Int32 × mh_H)) (k8 : mh_H → Nat → Int32 → Int32 → Int32 → Option (Int32 × mh_H)) (h : mh_H) (l0 : Nat) (l1 : Int32) (l2 : Int32) (l3 : Int32) : Option (Int32 × mh_H) :=
  k8 h l0 l1 l2 (l3 + Int32.ofInt (1))
set_option maxHeartbeats 4000000 in
set_option maxRecDepth 100000 in
theorem T_X5_sum_56 {P : mh_E → Prop} {N d : Nat} (hd : 7 ≤ d) {kB : mh_H → Nat → Int32 → Option (Int32 × mh_H)} {dB : Nat} (hdB : dB + 3 ≤ d) (hB : ∀ (h : mh_H) (x0 : Nat) (x1 : Int32) (z : (Int32 × mh_H)), kB h x0 x1 = some z → mh_go P dB mX5_sum 0 [some (.ref x0), some (.int x1), none, none] [] h (some (.int z.1)) z.2) {z : (Int32 × mh_H)} {k8 : mh_H → Nat → Int32 → Int32 → Int32 → Option (Int32 × mh_H)} (hk8 : ∀ (h : mh_H) (l0 : Nat) (l1 : Int32) (l2 : Int32) (l3 : Int32), k8 h l0 l1 l2 l3 = some z → mh_go P d mX5_sum 8 [some (.ref l0), some (.int l1), some (.int l2), some (.int l3)] [] h (some (.int z.1)) z.2) {h : mh_H} {l0 : Nat} {l1 : Int32} {l2 : Int32} {l3 : Int32} (hq : D_X5_sum_56 N kB k8 h l0 l1 l2 l3 = some z) : mh_go P d mX5_sum 56 [some (.ref l0), some (.int l1), some (.int l2), some (.int l3)] [] h (some (.int z.1)) z.2 := by
  unfold D_X5_sum_56 at hq
  refine st_iinc (pc := 56) (lv' := [some (.ref l0), some (.int l1), some (.int l2), some (.int (l3 + Int32.ofInt (1)))]) dX5_sum_56 rfl rfl (by decide) rfl ?_
  refine st_goto (pc := 59) (tgt := 8) dX5_sum_59 (by decide) ?_
  exact hk8 _ _ _ _ _ hq
def D_X5_sum_8 (N : Nat) (kB : mh_H → Nat → Int32 → Option (Int32 × mh_H)) : Nat → mh_H → Nat → Int32 → Int32 → Int32 → Option (Int32 × mh_H)
  | 0, _, _, _, _, _ => none
  | F + 1, h, l0, l1, l2, l3 =>
    if (60 : Int32) ≤ l3 then (some (l2, h))
    else (kO h 5 l0 <|
    (D_X5_take N h l0 (43 : Int32)).bind fun q1 =>
    if q1.1 = 0 then (kO q1.2 5 l0 <|
    (D_X5_take N q1.2 l0 (45 : Int32)).bind fun q2 =>
    if q2.1 = 0 then (some (l2, q2.2))
    else (kO q2.2 5 l0 <|
    (D_X5_term N kB q2.2 l0 l1).bind fun q3 =>
    D_X5_sum_56 N kB (D_X5_sum_8 N kB F) q3.2 l0 l1 (l2 - q3.1) l3))
    else (kO q1.2 5 l0 <|
    (D_X5_term N kB q1.2 l0 l1).bind fun q2 =>
    D_X5_sum_56 N kB (D_X5_sum_8 N kB F) q2.2 l0 l1 (l2 + q2.1) l3))
set_option maxHeartbeats 4000000 in
set_option maxRecDepth 100000 in
theorem T_X5_sum_8 {P : mh_E → Prop} {N d : Nat} (hd : 7 ≤ d) {kB : mh_H → Nat → Int32 → Option (Int32 × mh_H)} {dB : Nat} (hdB : dB + 3 ≤ d) (hB : ∀ (h : mh_H) (x0 : Nat) (x1 : Int32) (z : (Int32 × mh_H)), kB h x0 x1 = some z → mh_go P dB mX5_sum 0 [some (.ref x0), some (.int x1), none, none] [] h (some (.int z.1)) z.2) {z : (Int32 × mh_H)} : ∀ (F : Nat) (h : mh_H) (l0 : Nat) (l1 : Int32) (l2 : Int32) (l3 : Int32), D_X5_sum_8 N kB F h l0 l1 l2 l3 = some z → mh_go P d mX5_sum 8 [some (.ref l0), some (.int l1), some (.int l2), some (.int l3)] [] h (some (.int z.1)) z.2 := by
  intro F
  induction F with
  | zero => intro h l0 l1 l2 l3 hq; rw [D_X5_sum_8] at hq; cases hq
  | succ F ih =>
    intro h l0 l1 l2 l3 hq
    rw [D_X5_sum_8] at hq
    refine st_iload_n (pc := 8) dX5_sum_8 rfl ?_
    refine st_bipush (pc := 9) (v := (60 : Int32)) dX5_sum_9 (by decide) ?_
    refine bd_icmp_ge (pc := 11) (tgt := 62) hq dX5_sum_11 (by decide) (fun _ hq => ?_) (fun _ hq => ?_)
    ·
      refine st_iload_n (pc := 62) dX5_sum_62 rfl ?_
      exact bd_iret (pc := 63) hq dX5_sum_63 rfl
    ·
      refine st_aload_n (pc := 14) dX5_sum_14 rfl ?_
      refine st_bipush (pc := 15) (v := (43 : Int32)) dX5_sum_15 (by decide) ?_
      obtain ⟨⟨hbq1, hkq1⟩, hq⟩ := mh_oi hq
      obtain ⟨q1, e1, hq⟩ := mh_ob hq
      refine st_invV (pc := 17) (ci := 5) (vs := [.int (43 : Int32)]) (rest := []) (st2 := [.int q1.1]) dX5_sum_17 okX5_take (by decide) hkq1 hbq1 wd_567 wd_569 wp_11 pdX5_take rfl rfl rfl rfl (Nat.le_trans (by decide) hd) (Nat.le_of_ble_eq_true rfl) (T_X5_take (Nat.le_refl _) e1) rfl ?_
      refine bd_if_eq (pc := 20) (tgt := 34) hq dX5_sum_20 (by decide) (fun _ hq => ?_) (fun _ hq => ?_)
      ·
        refine st_aload_n (pc := 34) dX5_sum_34 rfl ?_
        refine st_bipush (pc := 35) (v := (45 : Int32)) dX5_sum_35 (by decide) ?_
        obtain ⟨⟨hbq2, hkq2⟩, hq⟩ := mh_oi hq
        obtain ⟨q2, e2, hq⟩ := mh_ob hq
        refine st_invV (pc := 37) (ci := 5) (vs := [.int (45 : Int32)]) (rest := []) (st2 := [.int q2.1]) dX5_sum_37 okX5_take (by decide) hkq2 hbq2 wd_567 wd_569 wp_11 pdX5_take rfl rfl rfl rfl (Nat.le_trans (by decide) hd) (Nat.le_of_ble_eq_true rfl) (T_X5_take (Nat.le_refl _) e2) rfl ?_
        refine bd_if_eq (pc := 40) (tgt := 54) hq dX5_sum_40 (by decide) (fun _ hq => ?_) (fun _ hq => ?_)
        ·
          refine st_iload_n (pc := 54) dX5_sum_54 rfl ?_
          exact bd_iret (pc := 55) hq dX5_sum_55 rfl
        ·
          refine st_iload_n (pc := 43) dX5_sum_43 rfl ?_
          refine st_aload_n (pc := 44) dX5_sum_44 rfl ?_
          refine st_iload_n (pc := 45) dX5_sum_45 rfl ?_
          obtain ⟨⟨hbq3, hkq3⟩, hq⟩ := mh_oi hq
          obtain ⟨q3, e3, hq⟩ := mh_ob hq
          refine st_invV (pc := 46) (ci := 5) (vs := [.int l1]) (rest := [.int l2]) (st2 := [.int q3.1, .int l2]) dX5_sum_46 okX5_term (by decide) hkq3 hbq3 wd_548 wd_550 wp_7 pdX5_term rfl rfl rfl rfl (by omega) (Nat.le_of_ble_eq_true rfl) (T_X5_term (d := d - 1) (by omega) (by omega) hB e3) rfl ?_
          refine st_isub (pc := 49) dX5_sum_49 ?_
          refine st_istore_n (pc := 50) (lv' := [some (.ref l0), some (.int l1), some (.int (l2 - q3.1)), some (.int l3)]) dX5_sum_50 rfl (by decide) rfl ?_
          refine st_goto (pc := 51) (tgt := 56) dX5_sum_51 (by decide) ?_
          exact T_X5_sum_56 hd hdB hB ih hq
      ·
        refine st_iload_n (pc := 23) dX5_sum_23 rfl ?_
        refine st_aload_n (pc := 24) dX5_sum_24 rfl ?_
        refine st_iload_n (pc := 25) dX5_sum_25 rfl ?_
        obtain ⟨⟨hbq2, hkq2⟩, hq⟩ := mh_oi hq
        obtain ⟨q2, e2, hq⟩ := mh_ob hq
        refine st_invV (pc := 26) (ci := 5) (vs := [.int l1]) (rest := [.int l2]) (st2 := [.int q2.1, .int l2]) dX5_sum_26 okX5_term (by decide) hkq2 hbq2 wd_548 wd_550 wp_7 pdX5_term rfl rfl rfl rfl (by omega) (Nat.le_of_ble_eq_true rfl) (T_X5_term (d := d - 1) (by omega) (by omega) hB e2) rfl ?_
        refine st_iadd (pc := 29) dX5_sum_29 ?_
        refine st_istore_n (pc := 30) (lv' := [some (.ref l0), some (.int l1), some (.int (l2 + q2.1)), some (.int l3)]) dX5_sum_30 rfl (by decide) rfl ?_
        refine st_goto (pc := 31) (tgt := 56) dX5_sum_31 (by decide) ?_
        exact T_X5_sum_56 hd hdB hB ih hq
def E_X5_sum (N : Nat) (kB : mh_H → Nat → Int32 → Option (Int32 × mh_H)) (h : mh_H) (l0 : Nat) (l1 : Int32) : Option (Int32 × mh_H) :=
  kO h 5 l0 <|
  (D_X5_term N kB h l0 l1).bind fun q1 =>
  D_X5_sum_8 N kB N q1.2 l0 l1 q1.1 (0 : Int32)
set_option maxHeartbeats 4000000 in
set_option maxRecDepth 100000 in
theorem TE_X5_sum {P : mh_E → Prop} {N d : Nat} (hd : 7 ≤ d) {kB : mh_H → Nat → Int32 → Option (Int32 × mh_H)} {dB : Nat} (hdB : dB + 3 ≤ d) (hB : ∀ (h : mh_H) (x0 : Nat) (x1 : Int32) (z : (Int32 × mh_H)), kB h x0 x1 = some z → mh_go P dB mX5_sum 0 [some (.ref x0), some (.int x1), none, none] [] h (some (.int z.1)) z.2) {z : (Int32 × mh_H)} {h : mh_H} {l0 : Nat} {l1 : Int32} (hq : E_X5_sum N kB h l0 l1 = some z) : mh_go P d mX5_sum 0 [some (.ref l0), some (.int l1), none, none] [] h (some (.int z.1)) z.2 := by
  unfold E_X5_sum at hq
  refine st_aload_n (pc := 0) dX5_sum_0 rfl ?_
  refine st_iload_n (pc := 1) dX5_sum_1 rfl ?_
  obtain ⟨⟨hbq1, hkq1⟩, hq⟩ := mh_oi hq
  obtain ⟨q1, e1, hq⟩ := mh_ob hq
  refine st_invV (pc := 2) (ci := 5) (vs := [.int l1]) (rest := []) (st2 := [.int q1.1]) dX5_sum_2 okX5_term (by decide) hkq1 hbq1 wd_548 wd_550 wp_7 pdX5_term rfl rfl rfl rfl (by omega) (Nat.le_of_ble_eq_true rfl) (T_X5_term (d := d - 1) (by omega) (by omega) hB e1) rfl ?_
  refine st_istore_n (pc := 5) (lv' := [some (.ref l0), some (.int l1), some (.int q1.1), none]) dX5_sum_5 rfl (by decide) rfl ?_
  refine st_iconst (pc := 6) (v := (0 : Int32)) dX5_sum_6 rfl ?_
  refine st_istore_n (pc := 7) (lv' := [some (.ref l0), some (.int l1), some (.int q1.1), some (.int (0 : Int32))]) dX5_sum_7 rfl (by decide) rfl ?_
  exact T_X5_sum_8 hd hdB hB N _ _ _ _ _ hq
def D_X5_sum (N : Nat) : Nat → mh_H → Nat → Int32 → Option (Int32 × mh_H)
  | 0, _, _, _ => none
  | D + 1, h, l0, l1 => E_X5_sum N (D_X5_sum N D) h l0 l1
set_option maxHeartbeats 4000000 in
set_option maxRecDepth 100000 in
theorem T_X5_sum {P : mh_E → Prop} {N : Nat} : ∀ (D d : Nat), 7 + 3 * D ≤ d → ∀ (h : mh_H) (l0 : Nat) (l1 : Int32) (z : (Int32 × mh_H)), D_X5_sum N D h l0 l1 = some z → mh_go P d mX5_sum 0 [some (.ref l0), some (.int l1), none, none] [] h (some (.int z.1)) z.2 := by
  intro D
  induction D with
  | zero => intro d hd h l0 l1 z hq; rw [D_X5_sum] at hq; cases hq
  | succ D ih =>
    intro d hd h l0 l1 z hq
    rw [D_X5_sum] at hq
    exact TE_X5_sum (dB := 7 + 3 * D) (by omega) (by omega) (fun h l0 l1 z hq => ih _ (Nat.le_refl _) h l0 l1 z hq) hq
-- HoleWater$Reader.tests()Z
theorem dX5_tests_151 : decode cX5_tests 151 = .ok (.istore_n 1, 1) := by decide +kernel
theorem dX5_tests_152 : decode cX5_tests 152 = .ok (.aload_n 0, 1) := by decide +kernel
theorem dX5_tests_153 : decode cX5_tests 153 = .ok (.bipush 38, 2) := by decide +kernel
theorem dX5_tests_155 : decode cX5_tests 155 = .ok (.invokevirtual 47, 3) := by decide +kernel
theorem dX5_tests_158 : decode cX5_tests 158 = .ok (.istore_n 2, 1) := by decide +kernel
theorem dX5_tests_159 : decode cX5_tests 159 = .ok (.iinc 3 1, 3) := by decide +kernel
theorem dX5_tests_162 : decode cX5_tests 162 = .ok (.goto (-151), 3) := by decide +kernel
theorem dX5_tests_146 : decode cX5_tests 146 = .ok (.iconst 1, 1) := by decide +kernel
theorem dX5_tests_147 : decode cX5_tests 147 = .ok (.goto 4, 3) := by decide +kernel
theorem dX5_tests_150 : decode cX5_tests 150 = .ok (.iconst 0, 1) := by decide +kernel
theorem dX5_tests_91 : decode cX5_tests 91 = .ok (.putfield 31, 3) := by decide +kernel
theorem dX5_tests_94 : decode cX5_tests 94 = .ok (.aload_n 0, 1) := by decide +kernel
theorem dX5_tests_95 : decode cX5_tests 95 = .ok (.iconst 0, 1) := by decide +kernel
theorem dX5_tests_96 : decode cX5_tests 96 = .ok (.invokevirtual 39, 3) := by decide +kernel
theorem dX5_tests_99 : decode cX5_tests 99 = .ok (.istore 6, 2) := by decide +kernel
theorem dX5_tests_101 : decode cX5_tests 101 = .ok (.iload_n 1, 1) := by decide +kernel
theorem dX5_tests_102 : decode cX5_tests 102 = .ok (.ifCond .eq 48, 3) := by decide +kernel
theorem dX5_tests_105 : decode cX5_tests 105 = .ok (.iload 5, 2) := by decide +kernel
theorem dX5_tests_107 : decode cX5_tests 107 = .ok (.bipush 60, 2) := by decide +kernel
theorem dX5_tests_109 : decode cX5_tests 109 = .ok (.if_icmp .ne 13, 3) := by decide +kernel
theorem dX5_tests_112 : decode cX5_tests 112 = .ok (.iload 4, 2) := by decide +kernel
theorem dX5_tests_114 : decode cX5_tests 114 = .ok (.iload 6, 2) := by decide +kernel
theorem dX5_tests_116 : decode cX5_tests 116 = .ok (.if_icmp .ge 34, 3) := by decide +kernel
theorem dX5_tests_119 : decode cX5_tests 119 = .ok (.goto 27, 3) := by decide +kernel
theorem dX5_tests_122 : decode cX5_tests 122 = .ok (.iload 5, 2) := by decide +kernel
theorem dX5_tests_124 : decode cX5_tests 124 = .ok (.bipush 61, 2) := by decide +kernel
theorem dX5_tests_126 : decode cX5_tests 126 = .ok (.if_icmp .ne 13, 3) := by decide +kernel
theorem dX5_tests_129 : decode cX5_tests 129 = .ok (.iload 4, 2) := by decide +kernel
theorem dX5_tests_131 : decode cX5_tests 131 = .ok (.iload 6, 2) := by decide +kernel
theorem dX5_tests_133 : decode cX5_tests 133 = .ok (.if_icmp .ne 17, 3) := by decide +kernel
theorem dX5_tests_136 : decode cX5_tests 136 = .ok (.goto 10, 3) := by decide +kernel
theorem dX5_tests_139 : decode cX5_tests 139 = .ok (.iload 4, 2) := by decide +kernel
theorem dX5_tests_141 : decode cX5_tests 141 = .ok (.iload 6, 2) := by decide +kernel
theorem dX5_tests_143 : decode cX5_tests 143 = .ok (.if_icmp .le 7, 3) := by decide +kernel
theorem dX5_tests_86 : decode cX5_tests 86 = .ok (.iconst 1, 1) := by decide +kernel
theorem dX5_tests_87 : decode cX5_tests 87 = .ok (.goto 4, 3) := by decide +kernel
theorem dX5_tests_71 : decode cX5_tests 71 = .ok (.istore 5, 2) := by decide +kernel
theorem dX5_tests_73 : decode cX5_tests 73 = .ok (.aload_n 0, 1) := by decide +kernel
theorem dX5_tests_74 : decode cX5_tests 74 = .ok (.aload_n 0, 1) := by decide +kernel
theorem dX5_tests_75 : decode cX5_tests 75 = .ok (.getfield 31, 3) := by decide +kernel
theorem dX5_tests_78 : decode cX5_tests 78 = .ok (.ifCond .ne 8, 3) := by decide +kernel
theorem dX5_tests_81 : decode cX5_tests 81 = .ok (.iload 5, 2) := by decide +kernel
theorem dX5_tests_83 : decode cX5_tests 83 = .ok (.ifCond .ne 7, 3) := by decide +kernel
theorem dX5_tests_90 : decode cX5_tests 90 = .ok (.iconst 0, 1) := by decide +kernel
theorem dX5_tests_11 : decode cX5_tests 11 = .ok (.iload_n 2, 1) := by decide +kernel
theorem dX5_tests_12 : decode cX5_tests 12 = .ok (.ifCond .eq 153, 3) := by decide +kernel
theorem dX5_tests_165 : decode cX5_tests 165 = .ok (.iload_n 1, 1) := by decide +kernel
theorem dX5_tests_166 : decode cX5_tests 166 = .ok (.ireturn, 1) := by decide +kernel
theorem dX5_tests_15 : decode cX5_tests 15 = .ok (.iload_n 3, 1) := by decide +kernel
theorem dX5_tests_16 : decode cX5_tests 16 = .ok (.bipush 60, 2) := by decide +kernel
theorem dX5_tests_18 : decode cX5_tests 18 = .ok (.if_icmp .ge 147, 3) := by decide +kernel
theorem dX5_tests_21 : decode cX5_tests 21 = .ok (.aload_n 0, 1) := by decide +kernel
theorem dX5_tests_22 : decode cX5_tests 22 = .ok (.iconst 0, 1) := by decide +kernel
theorem dX5_tests_23 : decode cX5_tests 23 = .ok (.invokevirtual 39, 3) := by decide +kernel
theorem dX5_tests_26 : decode cX5_tests 26 = .ok (.istore 4, 2) := by decide +kernel
theorem dX5_tests_28 : decode cX5_tests 28 = .ok (.aload_n 0, 1) := by decide +kernel
theorem dX5_tests_29 : decode cX5_tests 29 = .ok (.bipush 60, 2) := by decide +kernel
theorem dX5_tests_31 : decode cX5_tests 31 = .ok (.invokevirtual 47, 3) := by decide +kernel
theorem dX5_tests_34 : decode cX5_tests 34 = .ok (.ifCond .eq 8, 3) := by decide +kernel
theorem dX5_tests_42 : decode cX5_tests 42 = .ok (.aload_n 0, 1) := by decide +kernel
theorem dX5_tests_43 : decode cX5_tests 43 = .ok (.bipush 61, 2) := by decide +kernel
theorem dX5_tests_45 : decode cX5_tests 45 = .ok (.invokevirtual 47, 3) := by decide +kernel
theorem dX5_tests_48 : decode cX5_tests 48 = .ok (.ifCond .eq 8, 3) := by decide +kernel
theorem dX5_tests_56 : decode cX5_tests 56 = .ok (.aload_n 0, 1) := by decide +kernel
theorem dX5_tests_57 : decode cX5_tests 57 = .ok (.bipush 62, 2) := by decide +kernel
theorem dX5_tests_59 : decode cX5_tests 59 = .ok (.invokevirtual 47, 3) := by decide +kernel
theorem dX5_tests_62 : decode cX5_tests 62 = .ok (.ifCond .eq 8, 3) := by decide +kernel
theorem dX5_tests_70 : decode cX5_tests 70 = .ok (.iconst 0, 1) := by decide +kernel
theorem dX5_tests_65 : decode cX5_tests 65 = .ok (.bipush 62, 2) := by decide +kernel
theorem dX5_tests_67 : decode cX5_tests 67 = .ok (.goto 4, 3) := by decide +kernel
theorem dX5_tests_51 : decode cX5_tests 51 = .ok (.bipush 61, 2) := by decide +kernel
theorem dX5_tests_53 : decode cX5_tests 53 = .ok (.goto 18, 3) := by decide +kernel
theorem dX5_tests_37 : decode cX5_tests 37 = .ok (.bipush 60, 2) := by decide +kernel
theorem dX5_tests_39 : decode cX5_tests 39 = .ok (.goto 32, 3) := by decide +kernel
theorem dX5_tests_0 : decode cX5_tests 0 = .ok (.iconst 1, 1) := by decide +kernel
theorem dX5_tests_1 : decode cX5_tests 1 = .ok (.istore_n 1, 1) := by decide +kernel
theorem dX5_tests_2 : decode cX5_tests 2 = .ok (.aload_n 0, 1) := by decide +kernel
theorem dX5_tests_3 : decode cX5_tests 3 = .ok (.bipush 63, 2) := by decide +kernel
theorem dX5_tests_5 : decode cX5_tests 5 = .ok (.invokevirtual 47, 3) := by decide +kernel
theorem dX5_tests_8 : decode cX5_tests 8 = .ok (.istore_n 2, 1) := by decide +kernel
theorem dX5_tests_9 : decode cX5_tests 9 = .ok (.iconst 0, 1) := by decide +kernel
theorem dX5_tests_10 : decode cX5_tests 10 = .ok (.istore_n 3, 1) := by decide +kernel
def D_X5_tests_151 (N : Nat) (k11 : mh_H → Nat → Int32 → Int32 → Int32 → Option (Int32 × mh_H)) (h : mh_H) (l0 : Nat) (l3 : Int32) (s0 : Int32) : Option (Int32 × mh_H) :=
  kO h 5 l0 <|
  (D_X5_take N h l0 (38 : Int32)).bind fun q1 =>
  k11 q1.2 l0 s0 q1.1 (l3 + Int32.ofInt (1))
set_option maxHeartbeats 4000000 in
set_option maxRecDepth 100000 in
theorem T_X5_tests_151 {P : mh_E → Prop} {N d : Nat} (hd : 44 ≤ d) {z : (Int32 × mh_H)} {k11 : mh_H → Nat → Int32 → Int32 → Int32 → Option (Int32 × mh_H)} (hk11 : ∀ (h : mh_H) (l0 : Nat) (l1 : Int32) (l2 : Int32) (l3 : Int32), k11 h l0 l1 l2 l3 = some z → mh_go P d mX5_tests 11 [some (.ref l0), some (.int l1), some (.int l2), some (.int l3), none, none, none] [] h (some (.int z.1)) z.2) {h : mh_H} {l0 : Nat} {l3 : Int32} {s0 : Int32} (hq : D_X5_tests_151 N k11 h l0 l3 s0 = some z) : mh_go P d mX5_tests 151 [some (.ref l0), none, none, some (.int l3), none, none, none] [.int s0] h (some (.int z.1)) z.2 := by
  unfold D_X5_tests_151 at hq
  refine st_istore_n (pc := 151) (lv' := [some (.ref l0), some (.int s0), none, some (.int l3), none, none, none]) dX5_tests_151 rfl (by decide) rfl ?_
  refine st_aload_n (pc := 152) dX5_tests_152 rfl ?_
  refine st_bipush (pc := 153) (v := (38 : Int32)) dX5_tests_153 (by decide) ?_
  obtain ⟨⟨hbq1, hkq1⟩, hq⟩ := mh_oi hq
  obtain ⟨q1, e1, hq⟩ := mh_ob hq
  refine st_invV (pc := 155) (ci := 5) (vs := [.int (38 : Int32)]) (rest := []) (st2 := [.int q1.1]) dX5_tests_155 okX5_take (by decide) hkq1 hbq1 wd_567 wd_569 wp_11 pdX5_take rfl rfl rfl rfl (Nat.le_trans (by decide) hd) (Nat.le_of_ble_eq_true rfl) (T_X5_take (Nat.le_refl _) e1) rfl ?_
  refine st_istore_n (pc := 158) (lv' := [some (.ref l0), some (.int s0), some (.int q1.1), some (.int l3), none, none, none]) dX5_tests_158 rfl (by decide) rfl ?_
  refine st_iinc (pc := 159) (lv' := [some (.ref l0), some (.int s0), some (.int q1.1), some (.int (l3 + Int32.ofInt (1))), none, none, none]) dX5_tests_159 rfl rfl (by decide) rfl ?_
  refine st_goto (pc := 162) (tgt := 11) dX5_tests_162 (by decide) ?_
  exact hk11 _ _ _ _ _ hq
def D_X5_tests_146 (N : Nat) (k11 : mh_H → Nat → Int32 → Int32 → Int32 → Option (Int32 × mh_H)) (h : mh_H) (l0 : Nat) (l3 : Int32) : Option (Int32 × mh_H) :=
  D_X5_tests_151 N k11 h l0 l3 (1 : Int32)
set_option maxHeartbeats 4000000 in
set_option maxRecDepth 100000 in
theorem T_X5_tests_146 {P : mh_E → Prop} {N d : Nat} (hd : 44 ≤ d) {z : (Int32 × mh_H)} {k11 : mh_H → Nat → Int32 → Int32 → Int32 → Option (Int32 × mh_H)} (hk11 : ∀ (h : mh_H) (l0 : Nat) (l1 : Int32) (l2 : Int32) (l3 : Int32), k11 h l0 l1 l2 l3 = some z → mh_go P d mX5_tests 11 [some (.ref l0), some (.int l1), some (.int l2), some (.int l3), none, none, none] [] h (some (.int z.1)) z.2) {h : mh_H} {l0 : Nat} {l3 : Int32} (hq : D_X5_tests_146 N k11 h l0 l3 = some z) : mh_go P d mX5_tests 146 [some (.ref l0), none, none, some (.int l3), none, none, none] [] h (some (.int z.1)) z.2 := by
  unfold D_X5_tests_146 at hq
  refine st_iconst (pc := 146) (v := (1 : Int32)) dX5_tests_146 rfl ?_
  refine st_goto (pc := 147) (tgt := 151) dX5_tests_147 (by decide) ?_
  exact T_X5_tests_151 hd hk11 hq
def D_X5_tests_150 (N : Nat) (k11 : mh_H → Nat → Int32 → Int32 → Int32 → Option (Int32 × mh_H)) (h : mh_H) (l0 : Nat) (l3 : Int32) : Option (Int32 × mh_H) :=
  D_X5_tests_151 N k11 h l0 l3 (0 : Int32)
set_option maxHeartbeats 4000000 in
set_option maxRecDepth 100000 in
theorem T_X5_tests_150 {P : mh_E → Prop} {N d : Nat} (hd : 44 ≤ d) {z : (Int32 × mh_H)} {k11 : mh_H → Nat → Int32 → Int32 → Int32 → Option (Int32 × mh_H)} (hk11 : ∀ (h : mh_H) (l0 : Nat) (l1 : Int32) (l2 : Int32) (l3 : Int32), k11 h l0 l1 l2 l3 = some z → mh_go P d mX5_tests 11 [some (.ref l0), some (.int l1), some (.int l2), some (.int l3), none, none, none] [] h (some (.int z.1)) z.2) {h : mh_H} {l0 : Nat} {l3 : Int32} (hq : D_X5_tests_150 N k11 h l0 l3 = some z) : mh_go P d mX5_tests 150 [some (.ref l0), none, none, some (.int l3), none, none, none] [] h (some (.int z.1)) z.2 := by
  unfold D_X5_tests_150 at hq
  refine st_iconst (pc := 150) (v := (0 : Int32)) dX5_tests_150 rfl ?_
  exact T_X5_tests_151 hd hk11 hq
def D_X5_tests_91 (N : Nat) (k11 : mh_H → Nat → Int32 → Int32 → Int32 → Option (Int32 × mh_H)) (h : mh_H) (l0 : Nat) (l1 : Int32) (l3 : Int32) (l4 : Int32) (l5 : Int32) (s0 : Nat) (s1 : Int32) : Option (Int32 × mh_H) :=
  (pB h 5 s0 5 s1).bind fun h1 =>
  kO h1 5 l0 <|
  (D_X5_sum N 12 h1 l0 (0 : Int32)).bind fun q2 =>
  if l1 = 0 then (D_X5_tests_150 N k11 q2.2 l0 l3)
  else (if l5 = (60 : Int32) then (if q2.1 ≤ l4 then (D_X5_tests_150 N k11 q2.2 l0 l3)
  else (D_X5_tests_146 N k11 q2.2 l0 l3))
  else (if l5 = (61 : Int32) then (if l4 = q2.1 then (D_X5_tests_146 N k11 q2.2 l0 l3)
  else (D_X5_tests_150 N k11 q2.2 l0 l3))
  else (if l4 ≤ q2.1 then (D_X5_tests_150 N k11 q2.2 l0 l3)
  else (D_X5_tests_146 N k11 q2.2 l0 l3))))
set_option maxHeartbeats 4000000 in
set_option maxRecDepth 100000 in
theorem T_X5_tests_91 {P : mh_E → Prop} {N d : Nat} (hd : 44 ≤ d) {z : (Int32 × mh_H)} {k11 : mh_H → Nat → Int32 → Int32 → Int32 → Option (Int32 × mh_H)} (hk11 : ∀ (h : mh_H) (l0 : Nat) (l1 : Int32) (l2 : Int32) (l3 : Int32), k11 h l0 l1 l2 l3 = some z → mh_go P d mX5_tests 11 [some (.ref l0), some (.int l1), some (.int l2), some (.int l3), none, none, none] [] h (some (.int z.1)) z.2) {h : mh_H} {l0 : Nat} {l1 : Int32} {l3 : Int32} {l4 : Int32} {l5 : Int32} {s0 : Nat} {s1 : Int32} (hq : D_X5_tests_91 N k11 h l0 l1 l3 l4 l5 s0 s1 = some z) : mh_go P d mX5_tests 91 [some (.ref l0), some (.int l1), none, some (.int l3), some (.int l4), some (.int l5), none] [.int s1, .ref s0] h (some (.int z.1)) z.2 := by
  unfold D_X5_tests_91 at hq
  refine bd_putb (pc := 91) hq dX5_tests_91 fl_5_31_5 (Or.inl rfl) rfl (fun h1 hq => ?_)
  refine st_aload_n (pc := 94) dX5_tests_94 rfl ?_
  refine st_iconst (pc := 95) (v := (0 : Int32)) dX5_tests_95 rfl ?_
  obtain ⟨⟨hbq2, hkq2⟩, hq⟩ := mh_oi hq
  obtain ⟨q2, e2, hq⟩ := mh_ob hq
  refine st_invV (pc := 96) (ci := 5) (vs := [.int (0 : Int32)]) (rest := []) (st2 := [.int q2.1]) dX5_tests_96 okX5_sum (by decide) hkq2 hbq2 wd_544 wd_546 wp_6 pdX5_sum rfl rfl rfl rfl (Nat.le_trans (by decide) hd) (Nat.le_of_ble_eq_true rfl) (T_X5_sum 12 _ (Nat.le_refl _) _ _ _ _ e2) rfl ?_
  refine st_istore (pc := 99) (lv' := [some (.ref l0), some (.int l1), none, some (.int l3), some (.int l4), some (.int l5), some (.int q2.1)]) dX5_tests_99 rfl (by decide) rfl ?_
  refine st_iload_n (pc := 101) dX5_tests_101 rfl ?_
  refine bd_if_eq (pc := 102) (tgt := 150) hq dX5_tests_102 (by decide) (fun _ hq => ?_) (fun _ hq => ?_)
  ·
    refine st_lesS (lv' := [some (.ref l0), none, none, some (.int l3), none, none, none]) ⟨Or.inr rfl, Or.inl rfl, Or.inr rfl, Or.inr rfl, Or.inl rfl, Or.inl rfl, Or.inl rfl, trivial⟩ ?_
    exact T_X5_tests_150 hd hk11 hq
  ·
    refine st_iload (pc := 105) dX5_tests_105 rfl ?_
    refine st_bipush (pc := 107) (v := (60 : Int32)) dX5_tests_107 (by decide) ?_
    refine bd_icmp_ne (pc := 109) (tgt := 122) hq dX5_tests_109 (by decide) (fun _ hq => ?_) (fun _ hq => ?_)
    ·
      refine st_iload (pc := 112) dX5_tests_112 rfl ?_
      refine st_iload (pc := 114) dX5_tests_114 rfl ?_
      refine bd_icmp_ge (pc := 116) (tgt := 150) hq dX5_tests_116 (by decide) (fun _ hq => ?_) (fun _ hq => ?_)
      ·
        refine st_lesS (lv' := [some (.ref l0), none, none, some (.int l3), none, none, none]) ⟨Or.inr rfl, Or.inl rfl, Or.inr rfl, Or.inr rfl, Or.inl rfl, Or.inl rfl, Or.inl rfl, trivial⟩ ?_
        exact T_X5_tests_150 hd hk11 hq
      ·
        refine st_goto (pc := 119) (tgt := 146) dX5_tests_119 (by decide) ?_
        refine st_lesS (lv' := [some (.ref l0), none, none, some (.int l3), none, none, none]) ⟨Or.inr rfl, Or.inl rfl, Or.inr rfl, Or.inr rfl, Or.inl rfl, Or.inl rfl, Or.inl rfl, trivial⟩ ?_
        exact T_X5_tests_146 hd hk11 hq
    ·
      refine st_iload (pc := 122) dX5_tests_122 rfl ?_
      refine st_bipush (pc := 124) (v := (61 : Int32)) dX5_tests_124 (by decide) ?_
      refine bd_icmp_ne (pc := 126) (tgt := 139) hq dX5_tests_126 (by decide) (fun _ hq => ?_) (fun _ hq => ?_)
      ·
        refine st_iload (pc := 129) dX5_tests_129 rfl ?_
        refine st_iload (pc := 131) dX5_tests_131 rfl ?_
        refine bd_icmp_ne (pc := 133) (tgt := 150) hq dX5_tests_133 (by decide) (fun _ hq => ?_) (fun _ hq => ?_)
        ·
          refine st_goto (pc := 136) (tgt := 146) dX5_tests_136 (by decide) ?_
          refine st_lesS (lv' := [some (.ref l0), none, none, some (.int l3), none, none, none]) ⟨Or.inr rfl, Or.inl rfl, Or.inr rfl, Or.inr rfl, Or.inl rfl, Or.inl rfl, Or.inl rfl, trivial⟩ ?_
          exact T_X5_tests_146 hd hk11 hq
        ·
          refine st_lesS (lv' := [some (.ref l0), none, none, some (.int l3), none, none, none]) ⟨Or.inr rfl, Or.inl rfl, Or.inr rfl, Or.inr rfl, Or.inl rfl, Or.inl rfl, Or.inl rfl, trivial⟩ ?_
          exact T_X5_tests_150 hd hk11 hq
      ·
        refine st_iload (pc := 139) dX5_tests_139 rfl ?_
        refine st_iload (pc := 141) dX5_tests_141 rfl ?_
        refine bd_icmp_le (pc := 143) (tgt := 150) hq dX5_tests_143 (by decide) (fun _ hq => ?_) (fun _ hq => ?_)
        ·
          refine st_lesS (lv' := [some (.ref l0), none, none, some (.int l3), none, none, none]) ⟨Or.inr rfl, Or.inl rfl, Or.inr rfl, Or.inr rfl, Or.inl rfl, Or.inl rfl, Or.inl rfl, trivial⟩ ?_
          exact T_X5_tests_150 hd hk11 hq
        ·
          refine st_lesS (lv' := [some (.ref l0), none, none, some (.int l3), none, none, none]) ⟨Or.inr rfl, Or.inl rfl, Or.inr rfl, Or.inr rfl, Or.inl rfl, Or.inl rfl, Or.inl rfl, trivial⟩ ?_
          exact T_X5_tests_146 hd hk11 hq
def D_X5_tests_86 (N : Nat) (k11 : mh_H → Nat → Int32 → Int32 → Int32 → Option (Int32 × mh_H)) (h : mh_H) (l0 : Nat) (l1 : Int32) (l3 : Int32) (l4 : Int32) (l5 : Int32) (s0 : Nat) : Option (Int32 × mh_H) :=
  D_X5_tests_91 N k11 h l0 l1 l3 l4 l5 s0 (1 : Int32)
set_option maxHeartbeats 4000000 in
set_option maxRecDepth 100000 in
theorem T_X5_tests_86 {P : mh_E → Prop} {N d : Nat} (hd : 44 ≤ d) {z : (Int32 × mh_H)} {k11 : mh_H → Nat → Int32 → Int32 → Int32 → Option (Int32 × mh_H)} (hk11 : ∀ (h : mh_H) (l0 : Nat) (l1 : Int32) (l2 : Int32) (l3 : Int32), k11 h l0 l1 l2 l3 = some z → mh_go P d mX5_tests 11 [some (.ref l0), some (.int l1), some (.int l2), some (.int l3), none, none, none] [] h (some (.int z.1)) z.2) {h : mh_H} {l0 : Nat} {l1 : Int32} {l3 : Int32} {l4 : Int32} {l5 : Int32} {s0 : Nat} (hq : D_X5_tests_86 N k11 h l0 l1 l3 l4 l5 s0 = some z) : mh_go P d mX5_tests 86 [some (.ref l0), some (.int l1), none, some (.int l3), some (.int l4), some (.int l5), none] [.ref s0] h (some (.int z.1)) z.2 := by
  unfold D_X5_tests_86 at hq
  refine st_iconst (pc := 86) (v := (1 : Int32)) dX5_tests_86 rfl ?_
  refine st_goto (pc := 87) (tgt := 91) dX5_tests_87 (by decide) ?_
  exact T_X5_tests_91 hd hk11 hq
def D_X5_tests_71 (N : Nat) (k11 : mh_H → Nat → Int32 → Int32 → Int32 → Option (Int32 × mh_H)) (h : mh_H) (l0 : Nat) (l1 : Int32) (l3 : Int32) (l4 : Int32) (s0 : Int32) : Option (Int32 × mh_H) :=
  (gI h 5 l0 5).bind fun v1 =>
  if v1 = 0 then (if s0 = 0 then (D_X5_tests_86 N k11 h l0 l1 l3 l4 s0 l0)
  else (D_X5_tests_91 N k11 h l0 l1 l3 l4 s0 l0 (0 : Int32)))
  else (D_X5_tests_86 N k11 h l0 l1 l3 l4 s0 l0)
set_option maxHeartbeats 4000000 in
set_option maxRecDepth 100000 in
theorem T_X5_tests_71 {P : mh_E → Prop} {N d : Nat} (hd : 44 ≤ d) {z : (Int32 × mh_H)} {k11 : mh_H → Nat → Int32 → Int32 → Int32 → Option (Int32 × mh_H)} (hk11 : ∀ (h : mh_H) (l0 : Nat) (l1 : Int32) (l2 : Int32) (l3 : Int32), k11 h l0 l1 l2 l3 = some z → mh_go P d mX5_tests 11 [some (.ref l0), some (.int l1), some (.int l2), some (.int l3), none, none, none] [] h (some (.int z.1)) z.2) {h : mh_H} {l0 : Nat} {l1 : Int32} {l3 : Int32} {l4 : Int32} {s0 : Int32} (hq : D_X5_tests_71 N k11 h l0 l1 l3 l4 s0 = some z) : mh_go P d mX5_tests 71 [some (.ref l0), some (.int l1), none, some (.int l3), some (.int l4), none, none] [.int s0] h (some (.int z.1)) z.2 := by
  unfold D_X5_tests_71 at hq
  refine st_istore (pc := 71) (lv' := [some (.ref l0), some (.int l1), none, some (.int l3), some (.int l4), some (.int s0), none]) dX5_tests_71 rfl (by decide) rfl ?_
  refine st_aload_n (pc := 73) dX5_tests_73 rfl ?_
  refine st_aload_n (pc := 74) dX5_tests_74 rfl ?_
  refine bd_geti (pc := 75) hq dX5_tests_75 fl_5_31_5 rfl (fun v1 hq => ?_)
  refine bd_if_ne (pc := 78) (tgt := 86) hq dX5_tests_78 (by decide) (fun _ hq => ?_) (fun _ hq => ?_)
  ·
    refine st_iload (pc := 81) dX5_tests_81 rfl ?_
    refine bd_if_ne (pc := 83) (tgt := 90) hq dX5_tests_83 (by decide) (fun _ hq => ?_) (fun _ hq => ?_)
    ·
      exact T_X5_tests_86 hd hk11 hq
    ·
      refine st_iconst (pc := 90) (v := (0 : Int32)) dX5_tests_90 rfl ?_
      exact T_X5_tests_91 hd hk11 hq
  ·
    exact T_X5_tests_86 hd hk11 hq
def D_X5_tests_11 (N : Nat) : Nat → mh_H → Nat → Int32 → Int32 → Int32 → Option (Int32 × mh_H)
  | 0, _, _, _, _, _ => none
  | F + 1, h, l0, l1, l2, l3 =>
    if l2 = 0 then (zB l1 h)
    else (if (60 : Int32) ≤ l3 then (zB l1 h)
    else (kO h 5 l0 <|
    (D_X5_sum N 12 h l0 (0 : Int32)).bind fun q1 =>
    kO q1.2 5 l0 <|
    (D_X5_take N q1.2 l0 (60 : Int32)).bind fun q2 =>
    if q2.1 = 0 then (kO q2.2 5 l0 <|
    (D_X5_take N q2.2 l0 (61 : Int32)).bind fun q3 =>
    if q3.1 = 0 then (kO q3.2 5 l0 <|
    (D_X5_take N q3.2 l0 (62 : Int32)).bind fun q4 =>
    if q4.1 = 0 then (D_X5_tests_71 N (D_X5_tests_11 N F) q4.2 l0 l1 l3 q1.1 (0 : Int32))
    else (D_X5_tests_71 N (D_X5_tests_11 N F) q4.2 l0 l1 l3 q1.1 (62 : Int32)))
    else (D_X5_tests_71 N (D_X5_tests_11 N F) q3.2 l0 l1 l3 q1.1 (61 : Int32)))
    else (D_X5_tests_71 N (D_X5_tests_11 N F) q2.2 l0 l1 l3 q1.1 (60 : Int32))))
set_option maxHeartbeats 4000000 in
set_option maxRecDepth 100000 in
theorem T_X5_tests_11 {P : mh_E → Prop} {N d : Nat} (hd : 44 ≤ d) {z : (Int32 × mh_H)} : ∀ (F : Nat) (h : mh_H) (l0 : Nat) (l1 : Int32) (l2 : Int32) (l3 : Int32), D_X5_tests_11 N F h l0 l1 l2 l3 = some z → mh_go P d mX5_tests 11 [some (.ref l0), some (.int l1), some (.int l2), some (.int l3), none, none, none] [] h (some (.int z.1)) z.2 := by
  intro F
  induction F with
  | zero => intro h l0 l1 l2 l3 hq; rw [D_X5_tests_11] at hq; cases hq
  | succ F ih =>
    intro h l0 l1 l2 l3 hq
    rw [D_X5_tests_11] at hq
    refine st_iload_n (pc := 11) dX5_tests_11 rfl ?_
    refine bd_if_eq (pc := 12) (tgt := 165) hq dX5_tests_12 (by decide) (fun _ hq => ?_) (fun _ hq => ?_)
    ·
      refine st_iload_n (pc := 165) dX5_tests_165 rfl ?_
      exact bd_zret (pc := 166) hq dX5_tests_166 rfl
    ·
      refine st_iload_n (pc := 15) dX5_tests_15 rfl ?_
      refine st_bipush (pc := 16) (v := (60 : Int32)) dX5_tests_16 (by decide) ?_
      refine bd_icmp_ge (pc := 18) (tgt := 165) hq dX5_tests_18 (by decide) (fun _ hq => ?_) (fun _ hq => ?_)
      ·
        refine st_iload_n (pc := 165) dX5_tests_165 rfl ?_
        exact bd_zret (pc := 166) hq dX5_tests_166 rfl
      ·
        refine st_aload_n (pc := 21) dX5_tests_21 rfl ?_
        refine st_iconst (pc := 22) (v := (0 : Int32)) dX5_tests_22 rfl ?_
        obtain ⟨⟨hbq1, hkq1⟩, hq⟩ := mh_oi hq
        obtain ⟨q1, e1, hq⟩ := mh_ob hq
        refine st_invV (pc := 23) (ci := 5) (vs := [.int (0 : Int32)]) (rest := []) (st2 := [.int q1.1]) dX5_tests_23 okX5_sum (by decide) hkq1 hbq1 wd_544 wd_546 wp_6 pdX5_sum rfl rfl rfl rfl (Nat.le_trans (by decide) hd) (Nat.le_of_ble_eq_true rfl) (T_X5_sum 12 _ (Nat.le_refl _) _ _ _ _ e1) rfl ?_
        refine st_istore (pc := 26) (lv' := [some (.ref l0), some (.int l1), some (.int l2), some (.int l3), some (.int q1.1), none, none]) dX5_tests_26 rfl (by decide) rfl ?_
        refine st_aload_n (pc := 28) dX5_tests_28 rfl ?_
        refine st_bipush (pc := 29) (v := (60 : Int32)) dX5_tests_29 (by decide) ?_
        obtain ⟨⟨hbq2, hkq2⟩, hq⟩ := mh_oi hq
        obtain ⟨q2, e2, hq⟩ := mh_ob hq
        refine st_invV (pc := 31) (ci := 5) (vs := [.int (60 : Int32)]) (rest := []) (st2 := [.int q2.1]) dX5_tests_31 okX5_take (by decide) hkq2 hbq2 wd_567 wd_569 wp_11 pdX5_take rfl rfl rfl rfl (Nat.le_trans (by decide) hd) (Nat.le_of_ble_eq_true rfl) (T_X5_take (Nat.le_refl _) e2) rfl ?_
        refine bd_if_eq (pc := 34) (tgt := 42) hq dX5_tests_34 (by decide) (fun _ hq => ?_) (fun _ hq => ?_)
        ·
          refine st_aload_n (pc := 42) dX5_tests_42 rfl ?_
          refine st_bipush (pc := 43) (v := (61 : Int32)) dX5_tests_43 (by decide) ?_
          obtain ⟨⟨hbq3, hkq3⟩, hq⟩ := mh_oi hq
          obtain ⟨q3, e3, hq⟩ := mh_ob hq
          refine st_invV (pc := 45) (ci := 5) (vs := [.int (61 : Int32)]) (rest := []) (st2 := [.int q3.1]) dX5_tests_45 okX5_take (by decide) hkq3 hbq3 wd_567 wd_569 wp_11 pdX5_take rfl rfl rfl rfl (Nat.le_trans (by decide) hd) (Nat.le_of_ble_eq_true rfl) (T_X5_take (Nat.le_refl _) e3) rfl ?_
          refine bd_if_eq (pc := 48) (tgt := 56) hq dX5_tests_48 (by decide) (fun _ hq => ?_) (fun _ hq => ?_)
          ·
            refine st_aload_n (pc := 56) dX5_tests_56 rfl ?_
            refine st_bipush (pc := 57) (v := (62 : Int32)) dX5_tests_57 (by decide) ?_
            obtain ⟨⟨hbq4, hkq4⟩, hq⟩ := mh_oi hq
            obtain ⟨q4, e4, hq⟩ := mh_ob hq
            refine st_invV (pc := 59) (ci := 5) (vs := [.int (62 : Int32)]) (rest := []) (st2 := [.int q4.1]) dX5_tests_59 okX5_take (by decide) hkq4 hbq4 wd_567 wd_569 wp_11 pdX5_take rfl rfl rfl rfl (Nat.le_trans (by decide) hd) (Nat.le_of_ble_eq_true rfl) (T_X5_take (Nat.le_refl _) e4) rfl ?_
            refine bd_if_eq (pc := 62) (tgt := 70) hq dX5_tests_62 (by decide) (fun _ hq => ?_) (fun _ hq => ?_)
            ·
              refine st_iconst (pc := 70) (v := (0 : Int32)) dX5_tests_70 rfl ?_
              refine st_lesS (lv' := [some (.ref l0), some (.int l1), none, some (.int l3), some (.int q1.1), none, none]) ⟨Or.inr rfl, Or.inr rfl, Or.inl rfl, Or.inr rfl, Or.inr rfl, Or.inr rfl, Or.inr rfl, trivial⟩ ?_
              exact T_X5_tests_71 hd ih hq
            ·
              refine st_bipush (pc := 65) (v := (62 : Int32)) dX5_tests_65 (by decide) ?_
              refine st_goto (pc := 67) (tgt := 71) dX5_tests_67 (by decide) ?_
              refine st_lesS (lv' := [some (.ref l0), some (.int l1), none, some (.int l3), some (.int q1.1), none, none]) ⟨Or.inr rfl, Or.inr rfl, Or.inl rfl, Or.inr rfl, Or.inr rfl, Or.inr rfl, Or.inr rfl, trivial⟩ ?_
              exact T_X5_tests_71 hd ih hq
          ·
            refine st_bipush (pc := 51) (v := (61 : Int32)) dX5_tests_51 (by decide) ?_
            refine st_goto (pc := 53) (tgt := 71) dX5_tests_53 (by decide) ?_
            refine st_lesS (lv' := [some (.ref l0), some (.int l1), none, some (.int l3), some (.int q1.1), none, none]) ⟨Or.inr rfl, Or.inr rfl, Or.inl rfl, Or.inr rfl, Or.inr rfl, Or.inr rfl, Or.inr rfl, trivial⟩ ?_
            exact T_X5_tests_71 hd ih hq
        ·
          refine st_bipush (pc := 37) (v := (60 : Int32)) dX5_tests_37 (by decide) ?_
          refine st_goto (pc := 39) (tgt := 71) dX5_tests_39 (by decide) ?_
          refine st_lesS (lv' := [some (.ref l0), some (.int l1), none, some (.int l3), some (.int q1.1), none, none]) ⟨Or.inr rfl, Or.inr rfl, Or.inl rfl, Or.inr rfl, Or.inr rfl, Or.inr rfl, Or.inr rfl, trivial⟩ ?_
          exact T_X5_tests_71 hd ih hq
def D_X5_tests (N : Nat) (h : mh_H) (l0 : Nat) : Option (Int32 × mh_H) :=
  kO h 5 l0 <|
  (D_X5_take N h l0 (63 : Int32)).bind fun q1 =>
  D_X5_tests_11 N N q1.2 l0 (1 : Int32) q1.1 (0 : Int32)
set_option maxHeartbeats 4000000 in
set_option maxRecDepth 100000 in
theorem T_X5_tests {P : mh_E → Prop} {N d : Nat} (hd : 44 ≤ d) {z : (Int32 × mh_H)} {h : mh_H} {l0 : Nat} (hq : D_X5_tests N h l0 = some z) : mh_go P d mX5_tests 0 [some (.ref l0), none, none, none, none, none, none] [] h (some (.int z.1)) z.2 := by
  unfold D_X5_tests at hq
  refine st_iconst (pc := 0) (v := (1 : Int32)) dX5_tests_0 rfl ?_
  refine st_istore_n (pc := 1) (lv' := [some (.ref l0), some (.int (1 : Int32)), none, none, none, none, none]) dX5_tests_1 rfl (by decide) rfl ?_
  refine st_aload_n (pc := 2) dX5_tests_2 rfl ?_
  refine st_bipush (pc := 3) (v := (63 : Int32)) dX5_tests_3 (by decide) ?_
  obtain ⟨⟨hbq1, hkq1⟩, hq⟩ := mh_oi hq
  obtain ⟨q1, e1, hq⟩ := mh_ob hq
  refine st_invV (pc := 5) (ci := 5) (vs := [.int (63 : Int32)]) (rest := []) (st2 := [.int q1.1]) dX5_tests_5 okX5_take (by decide) hkq1 hbq1 wd_567 wd_569 wp_11 pdX5_take rfl rfl rfl rfl (Nat.le_trans (by decide) hd) (Nat.le_of_ble_eq_true rfl) (T_X5_take (Nat.le_refl _) e1) rfl ?_
  refine st_istore_n (pc := 8) (lv' := [some (.ref l0), some (.int (1 : Int32)), some (.int q1.1), none, none, none, none]) dX5_tests_8 rfl (by decide) rfl ?_
  refine st_iconst (pc := 9) (v := (0 : Int32)) dX5_tests_9 rfl ?_
  refine st_istore_n (pc := 10) (lv' := [some (.ref l0), some (.int (1 : Int32)), some (.int q1.1), some (.int (0 : Int32)), none, none, none]) dX5_tests_10 rfl (by decide) rfl ?_
  exact T_X5_tests_11 hd N _ _ _ _ _ hq
-- HoleWater$Reader.toldBy(LHoleWater$Row;Ljava/lang/String;)I
theorem dX5_toldBy_8 : decode cX5_toldBy 8 = .ok (.iload_n 3, 1) := by decide +kernel
theorem dX5_toldBy_9 : decode cX5_toldBy 9 = .ok (.bipush 6, 2) := by decide +kernel
theorem dX5_toldBy_11 : decode cX5_toldBy 11 = .ok (.if_icmp .ge 37, 3) := by decide +kernel
theorem dX5_toldBy_48 : decode cX5_toldBy 48 = .ok (.iconst 0, 1) := by decide +kernel
theorem dX5_toldBy_49 : decode cX5_toldBy 49 = .ok (.ireturn, 1) := by decide +kernel
theorem dX5_toldBy_14 : decode cX5_toldBy 14 = .ok (.aload_n 0, 1) := by decide +kernel
theorem dX5_toldBy_15 : decode cX5_toldBy 15 = .ok (.iconst 0, 1) := by decide +kernel
theorem dX5_toldBy_16 : decode cX5_toldBy 16 = .ok (.invokevirtual 39, 3) := by decide +kernel
theorem dX5_toldBy_19 : decode cX5_toldBy 19 = .ok (.istore 4, 2) := by decide +kernel
theorem dX5_toldBy_21 : decode cX5_toldBy 21 = .ok (.aload_n 0, 1) := by decide +kernel
theorem dX5_toldBy_22 : decode cX5_toldBy 22 = .ok (.invokevirtual 43, 3) := by decide +kernel
theorem dX5_toldBy_25 : decode cX5_toldBy 25 = .ok (.ifCond .eq 6, 3) := by decide +kernel
theorem dX5_toldBy_31 : decode cX5_toldBy 31 = .ok (.aload_n 0, 1) := by decide +kernel
theorem dX5_toldBy_32 : decode cX5_toldBy 32 = .ok (.bipush 59, 2) := by decide +kernel
theorem dX5_toldBy_34 : decode cX5_toldBy 34 = .ok (.invokevirtual 47, 3) := by decide +kernel
theorem dX5_toldBy_37 : decode cX5_toldBy 37 = .ok (.ifCond .ne 5, 3) := by decide +kernel
theorem dX5_toldBy_40 : decode cX5_toldBy 40 = .ok (.iconst 0, 1) := by decide +kernel
theorem dX5_toldBy_41 : decode cX5_toldBy 41 = .ok (.ireturn, 1) := by decide +kernel
theorem dX5_toldBy_42 : decode cX5_toldBy 42 = .ok (.iinc 3 1, 3) := by decide +kernel
theorem dX5_toldBy_45 : decode cX5_toldBy 45 = .ok (.goto (-37), 3) := by decide +kernel
theorem dX5_toldBy_28 : decode cX5_toldBy 28 = .ok (.iload 4, 2) := by decide +kernel
theorem dX5_toldBy_30 : decode cX5_toldBy 30 = .ok (.ireturn, 1) := by decide +kernel
theorem dX5_toldBy_0 : decode cX5_toldBy 0 = .ok (.aload_n 0, 1) := by decide +kernel
theorem dX5_toldBy_1 : decode cX5_toldBy 1 = .ok (.aload_n 1, 1) := by decide +kernel
theorem dX5_toldBy_2 : decode cX5_toldBy 2 = .ok (.aload_n 2, 1) := by decide +kernel
theorem dX5_toldBy_3 : decode cX5_toldBy 3 = .ok (.invokevirtual 35, 3) := by decide +kernel
theorem dX5_toldBy_6 : decode cX5_toldBy 6 = .ok (.iconst 0, 1) := by decide +kernel
theorem dX5_toldBy_7 : decode cX5_toldBy 7 = .ok (.istore_n 3, 1) := by decide +kernel
def D_X5_toldBy_8 (N : Nat) : Nat → mh_H → Nat → Int32 → Option (Int32 × mh_H)
  | 0, _, _, _ => none
  | F + 1, h, l0, l3 =>
    if (6 : Int32) ≤ l3 then (some ((0 : Int32), h))
    else (kO h 5 l0 <|
    (D_X5_sum N 12 h l0 (0 : Int32)).bind fun q1 =>
    kO q1.2 5 l0 <|
    (D_X5_tests N q1.2 l0).bind fun q2 =>
    if q2.1 = 0 then (kO q2.2 5 l0 <|
    (D_X5_take N q2.2 l0 (59 : Int32)).bind fun q3 =>
    if q3.1 = 0 then (some ((0 : Int32), q3.2))
    else ((D_X5_toldBy_8 N F) q3.2 l0 (l3 + Int32.ofInt (1))))
    else (some (q1.1, q2.2)))
set_option maxHeartbeats 4000000 in
set_option maxRecDepth 100000 in
theorem T_X5_toldBy_8 {P : mh_E → Prop} {N d : Nat} (hd : 45 ≤ d) {z : (Int32 × mh_H)} : ∀ (F : Nat) (h : mh_H) (l0 : Nat) (l3 : Int32), D_X5_toldBy_8 N F h l0 l3 = some z → mh_go P d mX5_toldBy 8 [some (.ref l0), none, none, some (.int l3), none] [] h (some (.int z.1)) z.2 := by
  intro F
  induction F with
  | zero => intro h l0 l3 hq; rw [D_X5_toldBy_8] at hq; cases hq
  | succ F ih =>
    intro h l0 l3 hq
    rw [D_X5_toldBy_8] at hq
    refine st_iload_n (pc := 8) dX5_toldBy_8 rfl ?_
    refine st_bipush (pc := 9) (v := (6 : Int32)) dX5_toldBy_9 (by decide) ?_
    refine bd_icmp_ge (pc := 11) (tgt := 48) hq dX5_toldBy_11 (by decide) (fun _ hq => ?_) (fun _ hq => ?_)
    ·
      refine st_iconst (pc := 48) (v := (0 : Int32)) dX5_toldBy_48 rfl ?_
      exact bd_iret (pc := 49) hq dX5_toldBy_49 rfl
    ·
      refine st_aload_n (pc := 14) dX5_toldBy_14 rfl ?_
      refine st_iconst (pc := 15) (v := (0 : Int32)) dX5_toldBy_15 rfl ?_
      obtain ⟨⟨hbq1, hkq1⟩, hq⟩ := mh_oi hq
      obtain ⟨q1, e1, hq⟩ := mh_ob hq
      refine st_invV (pc := 16) (ci := 5) (vs := [.int (0 : Int32)]) (rest := []) (st2 := [.int q1.1]) dX5_toldBy_16 okX5_sum (by decide) hkq1 hbq1 wd_544 wd_546 wp_6 pdX5_sum rfl rfl rfl rfl (Nat.le_trans (by decide) hd) (Nat.le_of_ble_eq_true rfl) (T_X5_sum 12 _ (Nat.le_refl _) _ _ _ _ e1) rfl ?_
      refine st_istore (pc := 19) (lv' := [some (.ref l0), none, none, some (.int l3), some (.int q1.1)]) dX5_toldBy_19 rfl (by decide) rfl ?_
      refine st_aload_n (pc := 21) dX5_toldBy_21 rfl ?_
      obtain ⟨⟨hbq2, hkq2⟩, hq⟩ := mh_oi hq
      obtain ⟨q2, e2, hq⟩ := mh_ob hq
      refine st_invV (pc := 22) (ci := 5) (vs := []) (rest := []) (st2 := [.int q2.1]) dX5_toldBy_22 okX5_tests (by decide) hkq2 hbq2 wd_654 wd_656 wp_12 pdX5_tests rfl rfl rfl rfl (Nat.le_trans (by decide) hd) (Nat.le_of_ble_eq_true rfl) (T_X5_tests (Nat.le_refl _) e2) rfl ?_
      refine bd_if_eq (pc := 25) (tgt := 31) hq dX5_toldBy_25 (by decide) (fun _ hq => ?_) (fun _ hq => ?_)
      ·
        refine st_aload_n (pc := 31) dX5_toldBy_31 rfl ?_
        refine st_bipush (pc := 32) (v := (59 : Int32)) dX5_toldBy_32 (by decide) ?_
        obtain ⟨⟨hbq3, hkq3⟩, hq⟩ := mh_oi hq
        obtain ⟨q3, e3, hq⟩ := mh_ob hq
        refine st_invV (pc := 34) (ci := 5) (vs := [.int (59 : Int32)]) (rest := []) (st2 := [.int q3.1]) dX5_toldBy_34 okX5_take (by decide) hkq3 hbq3 wd_567 wd_569 wp_11 pdX5_take rfl rfl rfl rfl (Nat.le_trans (by decide) hd) (Nat.le_of_ble_eq_true rfl) (T_X5_take (Nat.le_refl _) e3) rfl ?_
        refine bd_if_ne (pc := 37) (tgt := 42) hq dX5_toldBy_37 (by decide) (fun _ hq => ?_) (fun _ hq => ?_)
        ·
          refine st_iconst (pc := 40) (v := (0 : Int32)) dX5_toldBy_40 rfl ?_
          exact bd_iret (pc := 41) hq dX5_toldBy_41 rfl
        ·
          refine st_iinc (pc := 42) (lv' := [some (.ref l0), none, none, some (.int (l3 + Int32.ofInt (1))), some (.int q1.1)]) dX5_toldBy_42 rfl rfl (by decide) rfl ?_
          refine st_goto (pc := 45) (tgt := 8) dX5_toldBy_45 (by decide) ?_
          refine st_lesS (lv' := [some (.ref l0), none, none, some (.int (l3 + Int32.ofInt (1))), none]) ⟨Or.inr rfl, Or.inr rfl, Or.inr rfl, Or.inr rfl, Or.inl rfl, trivial⟩ ?_
          exact ih _ _ _ hq
      ·
        refine st_iload (pc := 28) dX5_toldBy_28 rfl ?_
        exact bd_iret (pc := 30) hq dX5_toldBy_30 rfl
def D_X5_toldBy (N : Nat) (h : mh_H) (l0 : Nat) (l1 : Nat) (l2 : Nat) : Option (Int32 × mh_H) :=
  kO h 5 l0 <|
  (D_X5_begin N h l0 l1 l2).bind fun q1 =>
  D_X5_toldBy_8 N N q1 l0 (0 : Int32)
set_option maxHeartbeats 4000000 in
set_option maxRecDepth 100000 in
theorem T_X5_toldBy {P : mh_E → Prop} {N d : Nat} (hd : 45 ≤ d) {z : (Int32 × mh_H)} {h : mh_H} {l0 : Nat} {l1 : Nat} {l2 : Nat} (hq : D_X5_toldBy N h l0 l1 l2 = some z) : mh_go P d mX5_toldBy 0 [some (.ref l0), some (.ref l1), some (.ref l2), none, none] [] h (some (.int z.1)) z.2 := by
  unfold D_X5_toldBy at hq
  refine st_aload_n (pc := 0) dX5_toldBy_0 rfl ?_
  refine st_aload_n (pc := 1) dX5_toldBy_1 rfl ?_
  refine st_aload_n (pc := 2) dX5_toldBy_2 rfl ?_
  obtain ⟨⟨hbq1, hkq1⟩, hq⟩ := mh_oi hq
  obtain ⟨q1, e1, hq⟩ := mh_ob hq
  refine st_invV (pc := 3) (ci := 5) (vs := [.ref l1, .ref l2]) (rest := []) (st2 := []) dX5_toldBy_3 okX5_begin (by decide) hkq1 hbq1 wd_539 wd_541 wp_5 pdX5_begin rfl rfl rfl rfl (Nat.le_trans (by decide) hd) (Nat.le_of_ble_eq_true rfl) (T_X5_begin (Nat.le_refl _) e1) rfl ?_
  refine st_iconst (pc := 6) (v := (0 : Int32)) dX5_toldBy_6 rfl ?_
  refine st_istore_n (pc := 7) (lv' := [some (.ref l0), some (.ref l1), some (.ref l2), some (.int (0 : Int32)), none]) dX5_toldBy_7 rfl (by decide) rfl ?_
  refine st_lesS (lv' := [some (.ref l0), none, none, some (.int (0 : Int32)), none]) ⟨Or.inr rfl, Or.inl rfl, Or.inl rfl, Or.inr rfl, Or.inr rfl, trivial⟩ ?_
  exact T_X5_toldBy_8 hd N _ _ _ hq
-- HoleWater$World.rainOn(ILHoleWater$Water;LHoleWater$Reader;)I
theorem dX10_rainOn_63 : decode cX10_rainOn 63 = .ok (.iastore, 1) := by decide +kernel
theorem dX10_rainOn_64 : decode cX10_rainOn 64 = .ok (.aload_n 3, 1) := by decide +kernel
theorem dX10_rainOn_65 : decode cX10_rainOn 65 = .ok (.aload_n 0, 1) := by decide +kernel
theorem dX10_rainOn_66 : decode cX10_rainOn 66 = .ok (.getfield 60, 3) := by decide +kernel
theorem dX10_rainOn_69 : decode cX10_rainOn 69 = .ok (.ldc 125, 2) := by decide +kernel
theorem dX10_rainOn_71 : decode cX10_rainOn 71 = .ok (.invokevirtual 127, 3) := by decide +kernel
theorem dX10_rainOn_74 : decode cX10_rainOn 74 = .ok (.iconst 0, 1) := by decide +kernel
theorem dX10_rainOn_75 : decode cX10_rainOn 75 = .ok (.sipush 999, 3) := by decide +kernel
theorem dX10_rainOn_78 : decode cX10_rainOn 78 = .ok (.invokestatic 131, 3) := by decide +kernel
theorem dX10_rainOn_81 : decode cX10_rainOn 81 = .ok (.ireturn, 1) := by decide +kernel
theorem dX10_rainOn_0 : decode cX10_rainOn 0 = .ok (.aload_n 0, 1) := by decide +kernel
theorem dX10_rainOn_1 : decode cX10_rainOn 1 = .ok (.getfield 60, 3) := by decide +kernel
theorem dX10_rainOn_4 : decode cX10_rainOn 4 = .ok (.getfield 113, 3) := by decide +kernel
theorem dX10_rainOn_7 : decode cX10_rainOn 7 = .ok (.ifCond .ne 6, 3) := by decide +kernel
theorem dX10_rainOn_10 : decode cX10_rainOn 10 = .ok (.bipush 10, 2) := by decide +kernel
theorem dX10_rainOn_12 : decode cX10_rainOn 12 = .ok (.ireturn, 1) := by decide +kernel
theorem dX10_rainOn_13 : decode cX10_rainOn 13 = .ok (.aload_n 3, 1) := by decide +kernel
theorem dX10_rainOn_14 : decode cX10_rainOn 14 = .ok (.getfield 116, 3) := by decide +kernel
theorem dX10_rainOn_17 : decode cX10_rainOn 17 = .ok (.iconst 0, 1) := by decide +kernel
theorem dX10_rainOn_18 : decode cX10_rainOn 18 = .ok (.aload_n 2, 1) := by decide +kernel
theorem dX10_rainOn_19 : decode cX10_rainOn 19 = .ok (.getfield 102, 3) := by decide +kernel
theorem dX10_rainOn_22 : decode cX10_rainOn 22 = .ok (.bipush 24, 2) := by decide +kernel
theorem dX10_rainOn_24 : decode cX10_rainOn 24 = .ok (.irem, 1) := by decide +kernel
theorem dX10_rainOn_25 : decode cX10_rainOn 25 = .ok (.iastore, 1) := by decide +kernel
theorem dX10_rainOn_26 : decode cX10_rainOn 26 = .ok (.aload_n 3, 1) := by decide +kernel
theorem dX10_rainOn_27 : decode cX10_rainOn 27 = .ok (.getfield 116, 3) := by decide +kernel
theorem dX10_rainOn_30 : decode cX10_rainOn 30 = .ok (.iconst 1, 1) := by decide +kernel
theorem dX10_rainOn_31 : decode cX10_rainOn 31 = .ok (.aload_n 2, 1) := by decide +kernel
theorem dX10_rainOn_32 : decode cX10_rainOn 32 = .ok (.getfield 102, 3) := by decide +kernel
theorem dX10_rainOn_35 : decode cX10_rainOn 35 = .ok (.bipush 24, 2) := by decide +kernel
theorem dX10_rainOn_37 : decode cX10_rainOn 37 = .ok (.idiv, 1) := by decide +kernel
theorem dX10_rainOn_38 : decode cX10_rainOn 38 = .ok (.iastore, 1) := by decide +kernel
theorem dX10_rainOn_39 : decode cX10_rainOn 39 = .ok (.aload_n 3, 1) := by decide +kernel
theorem dX10_rainOn_40 : decode cX10_rainOn 40 = .ok (.getfield 116, 3) := by decide +kernel
theorem dX10_rainOn_43 : decode cX10_rainOn 43 = .ok (.iconst 2, 1) := by decide +kernel
theorem dX10_rainOn_44 : decode cX10_rainOn 44 = .ok (.iload_n 1, 1) := by decide +kernel
theorem dX10_rainOn_45 : decode cX10_rainOn 45 = .ok (.iastore, 1) := by decide +kernel
theorem dX10_rainOn_46 : decode cX10_rainOn 46 = .ok (.aload_n 3, 1) := by decide +kernel
theorem dX10_rainOn_47 : decode cX10_rainOn 47 = .ok (.getfield 116, 3) := by decide +kernel
theorem dX10_rainOn_50 : decode cX10_rainOn 50 = .ok (.iconst 3, 1) := by decide +kernel
theorem dX10_rainOn_51 : decode cX10_rainOn 51 = .ok (.aload_n 2, 1) := by decide +kernel
theorem dX10_rainOn_52 : decode cX10_rainOn 52 = .ok (.getfield 121, 3) := by decide +kernel
theorem dX10_rainOn_55 : decode cX10_rainOn 55 = .ok (.ifCond .eq 7, 3) := by decide +kernel
theorem dX10_rainOn_62 : decode cX10_rainOn 62 = .ok (.iconst 0, 1) := by decide +kernel
theorem dX10_rainOn_58 : decode cX10_rainOn 58 = .ok (.iconst 1, 1) := by decide +kernel
theorem dX10_rainOn_59 : decode cX10_rainOn 59 = .ok (.goto 4, 3) := by decide +kernel
def D_X10_rainOn_63 (N : Nat) (h : mh_H) (l0 : Nat) (l3 : Nat) (s0 : Nat) (s1 : Int32) (s2 : Int32) : Option (Int32 × mh_H) :=
  (uI h s0 s1 s2).bind fun h1 =>
  (gR h1 10 l0 10).bind fun v2 =>
  kO h1 5 l3 <|
  (D_X5_toldBy N h1 l3 v2 1000000001).bind fun q3 =>
  (D_X11_held N q3.2 q3.1 (0 : Int32) (999 : Int32)).bind fun q4 =>
  some (q4.1, q4.2)
set_option maxHeartbeats 4000000 in
set_option maxRecDepth 100000 in
theorem T_X10_rainOn_63 {P : mh_E → Prop} {N d : Nat} (hd : 46 ≤ d) {z : (Int32 × mh_H)} {h : mh_H} {l0 : Nat} {l3 : Nat} {s0 : Nat} {s1 : Int32} {s2 : Int32} (hq : D_X10_rainOn_63 N h l0 l3 s0 s1 s2 = some z) : mh_go P d mX10_rainOn 63 [some (.ref l0), none, none, some (.ref l3)] [.int s2, .int s1, .ref s0] h (some (.int z.1)) z.2 := by
  unfold D_X10_rainOn_63 at hq
  refine bd_iast (pc := 63) hq dX10_rainOn_63 (fun h1 hq => ?_)
  refine st_aload_n (pc := 64) dX10_rainOn_64 rfl ?_
  refine st_aload_n (pc := 65) dX10_rainOn_65 rfl ?_
  refine bd_getr (pc := 66) hq dX10_rainOn_66 fl_10_60_10 rfl (fun v2 hq => ?_)
  refine st_ldcS (pc := 69) (i := 0) (tx := "hdkf") dX10_rainOn_69 (by decide) ?_
  obtain ⟨⟨hbq3, hkq3⟩, hq⟩ := mh_oi hq
  obtain ⟨q3, e3, hq⟩ := mh_ob hq
  refine st_invV (pc := 71) (ci := 5) (vs := [.ref v2, .ref 1000000001]) (rest := []) (st2 := [.int q3.1]) dX10_rainOn_71 okX5_toldBy (by decide) hkq3 hbq3 wd_535 wd_536 wd_537 pdX5_toldBy rfl rfl rfl rfl (Nat.le_trans (by decide) hd) (Nat.le_of_ble_eq_true rfl) (T_X5_toldBy (Nat.le_refl _) e3) rfl ?_
  refine st_iconst (pc := 74) (v := (0 : Int32)) dX10_rainOn_74 rfl ?_
  refine st_sipush (pc := 75) (v := (999 : Int32)) dX10_rainOn_75 (by decide) ?_
  obtain ⟨q4, e4, hq⟩ := mh_ob hq
  refine st_invSN (pc := 78) (Y := mX11_held) (vs := [.int q3.1, .int (0 : Int32), .int (999 : Int32)]) (rest := []) (st2 := [.int q4.1]) dX10_rainOn_78 okX11_held wn_658 wd_659 pdX11_held rfl rfl rfl rfl (Nat.le_trans (by decide) hd) (Nat.le_of_ble_eq_true rfl) (T_X11_held (Nat.le_refl _) e4) rfl ?_
  exact bd_iret (pc := 81) hq dX10_rainOn_81 rfl
def D_X10_rainOn (N : Nat) (h : mh_H) (l0 : Nat) (l1 : Int32) (l2 : Nat) (l3 : Nat) : Option (Int32 × mh_H) :=
  (gR h 10 l0 10).bind fun v1 =>
  (gI h 6 v1 1).bind fun v2 =>
  if v2 = 0 then (some ((10 : Int32), h))
  else ((gR h 5 l3 0).bind fun v3 =>
  (gI h 8 l2 0).bind fun v4 =>
  dN (24 : Int32) <|
  (uI h v3 (0 : Int32) (v4 - v4 / (24 : Int32) * (24 : Int32))).bind fun h5 =>
  (gR h5 5 l3 0).bind fun v6 =>
  (gI h5 8 l2 0).bind fun v7 =>
  dN (24 : Int32) <|
  (uI h5 v6 (1 : Int32) (v7 / (24 : Int32))).bind fun h8 =>
  (gR h8 5 l3 0).bind fun v9 =>
  (uI h8 v9 (2 : Int32) l1).bind fun h10 =>
  (gR h10 5 l3 0).bind fun v11 =>
  (gI h10 8 l2 1).bind fun v12 =>
  if v12 = 0 then (D_X10_rainOn_63 N h10 l0 l3 v11 (3 : Int32) (0 : Int32))
  else (D_X10_rainOn_63 N h10 l0 l3 v11 (3 : Int32) (1 : Int32)))
set_option maxHeartbeats 4000000 in
set_option maxRecDepth 100000 in
theorem T_X10_rainOn {P : mh_E → Prop} {N d : Nat} (hd : 46 ≤ d) {z : (Int32 × mh_H)} {h : mh_H} {l0 : Nat} {l1 : Int32} {l2 : Nat} {l3 : Nat} (hq : D_X10_rainOn N h l0 l1 l2 l3 = some z) : mh_go P d mX10_rainOn 0 [some (.ref l0), some (.int l1), some (.ref l2), some (.ref l3)] [] h (some (.int z.1)) z.2 := by
  unfold D_X10_rainOn at hq
  refine st_aload_n (pc := 0) dX10_rainOn_0 rfl ?_
  refine bd_getr (pc := 1) hq dX10_rainOn_1 fl_10_60_10 rfl (fun v1 hq => ?_)
  refine bd_geti (pc := 4) hq dX10_rainOn_4 fl_10_113_6 rfl (fun v2 hq => ?_)
  refine bd_if_ne (pc := 7) (tgt := 13) hq dX10_rainOn_7 (by decide) (fun _ hq => ?_) (fun _ hq => ?_)
  ·
    refine st_bipush (pc := 10) (v := (10 : Int32)) dX10_rainOn_10 (by decide) ?_
    exact bd_iret (pc := 12) hq dX10_rainOn_12 rfl
  ·
    refine st_aload_n (pc := 13) dX10_rainOn_13 rfl ?_
    refine bd_getr (pc := 14) hq dX10_rainOn_14 fl_10_116_5 rfl (fun v3 hq => ?_)
    refine st_iconst (pc := 17) (v := (0 : Int32)) dX10_rainOn_17 rfl ?_
    refine st_aload_n (pc := 18) dX10_rainOn_18 rfl ?_
    refine bd_geti (pc := 19) hq dX10_rainOn_19 fl_10_102_8 rfl (fun v4 hq => ?_)
    refine st_bipush (pc := 22) (v := (24 : Int32)) dX10_rainOn_22 (by decide) ?_
    refine bd_irem (pc := 24) hq dX10_rainOn_24 (fun hq => ?_)
    refine bd_iast (pc := 25) hq dX10_rainOn_25 (fun h5 hq => ?_)
    refine st_aload_n (pc := 26) dX10_rainOn_26 rfl ?_
    refine bd_getr (pc := 27) hq dX10_rainOn_27 fl_10_116_5 rfl (fun v6 hq => ?_)
    refine st_iconst (pc := 30) (v := (1 : Int32)) dX10_rainOn_30 rfl ?_
    refine st_aload_n (pc := 31) dX10_rainOn_31 rfl ?_
    refine bd_geti (pc := 32) hq dX10_rainOn_32 fl_10_102_8 rfl (fun v7 hq => ?_)
    refine st_bipush (pc := 35) (v := (24 : Int32)) dX10_rainOn_35 (by decide) ?_
    refine bd_idiv (pc := 37) hq dX10_rainOn_37 (fun hq => ?_)
    refine bd_iast (pc := 38) hq dX10_rainOn_38 (fun h8 hq => ?_)
    refine st_aload_n (pc := 39) dX10_rainOn_39 rfl ?_
    refine bd_getr (pc := 40) hq dX10_rainOn_40 fl_10_116_5 rfl (fun v9 hq => ?_)
    refine st_iconst (pc := 43) (v := (2 : Int32)) dX10_rainOn_43 rfl ?_
    refine st_iload_n (pc := 44) dX10_rainOn_44 rfl ?_
    refine bd_iast (pc := 45) hq dX10_rainOn_45 (fun h10 hq => ?_)
    refine st_aload_n (pc := 46) dX10_rainOn_46 rfl ?_
    refine bd_getr (pc := 47) hq dX10_rainOn_47 fl_10_116_5 rfl (fun v11 hq => ?_)
    refine st_iconst (pc := 50) (v := (3 : Int32)) dX10_rainOn_50 rfl ?_
    refine st_aload_n (pc := 51) dX10_rainOn_51 rfl ?_
    refine bd_geti (pc := 52) hq dX10_rainOn_52 fl_10_121_8 rfl (fun v12 hq => ?_)
    refine bd_if_eq (pc := 55) (tgt := 62) hq dX10_rainOn_55 (by decide) (fun _ hq => ?_) (fun _ hq => ?_)
    ·
      refine st_iconst (pc := 62) (v := (0 : Int32)) dX10_rainOn_62 rfl ?_
      refine st_lesS (lv' := [some (.ref l0), none, none, some (.ref l3)]) ⟨Or.inr rfl, Or.inl rfl, Or.inl rfl, Or.inr rfl, trivial⟩ ?_
      exact T_X10_rainOn_63 hd hq
    ·
      refine st_iconst (pc := 58) (v := (1 : Int32)) dX10_rainOn_58 rfl ?_
      refine st_goto (pc := 59) (tgt := 63) dX10_rainOn_59 (by decide) ?_
      refine st_lesS (lv' := [some (.ref l0), none, none, some (.ref l3)]) ⟨Or.inr rfl, Or.inl rfl, Or.inl rfl, Or.inr rfl, trivial⟩ ?_
      exact T_X10_rainOn_63 hd hq
-- HoleWater$Water.passHour(LHoleWater$World;LHoleWater$Reader;)V
theorem dX8_passHour_64 : decode cX8_passHour 64 = .ok (.iinc 3 1, 3) := by decide +kernel
theorem dX8_passHour_67 : decode cX8_passHour 67 = .ok (.goto (-38), 3) := by decide +kernel
theorem dX8_passHour_128 : decode cX8_passHour 128 = .ok (.iinc 3 1, 3) := by decide +kernel
theorem dX8_passHour_131 : decode cX8_passHour 131 = .ok (.goto (-59), 3) := by decide +kernel
theorem dX8_passHour_105 : decode cX8_passHour 105 = .ok (.invokevirtual 88, 3) := by decide +kernel
theorem dX8_passHour_108 : decode cX8_passHour 108 = .ok (.goto 20, 3) := by decide +kernel
theorem dX8_passHour_72 : decode cX8_passHour 72 = .ok (.iload_n 3, 1) := by decide +kernel
theorem dX8_passHour_73 : decode cX8_passHour 73 = .ok (.aload_n 1, 1) := by decide +kernel
theorem dX8_passHour_74 : decode cX8_passHour 74 = .ok (.getfield 73, 3) := by decide +kernel
theorem dX8_passHour_77 : decode cX8_passHour 77 = .ok (.if_icmp .ge 57, 3) := by decide +kernel
theorem dX8_passHour_134 : decode cX8_passHour 134 = .ok (.aload_n 0, 1) := by decide +kernel
theorem dX8_passHour_135 : decode cX8_passHour 135 = .ok (.dup, 1) := by decide +kernel
theorem dX8_passHour_136 : decode cX8_passHour 136 = .ok (.getfield 9, 3) := by decide +kernel
theorem dX8_passHour_139 : decode cX8_passHour 139 = .ok (.iconst 1, 1) := by decide +kernel
theorem dX8_passHour_140 : decode cX8_passHour 140 = .ok (.iadd, 1) := by decide +kernel
theorem dX8_passHour_141 : decode cX8_passHour 141 = .ok (.putfield 9, 3) := by decide +kernel
theorem dX8_passHour_144 : decode cX8_passHour 144 = .ok (.return_, 1) := by decide +kernel
theorem dX8_passHour_80 : decode cX8_passHour 80 = .ok (.aload_n 1, 1) := by decide +kernel
theorem dX8_passHour_81 : decode cX8_passHour 81 = .ok (.iload_n 3, 1) := by decide +kernel
theorem dX8_passHour_82 : decode cX8_passHour 82 = .ok (.invokevirtual 84, 3) := by decide +kernel
theorem dX8_passHour_85 : decode cX8_passHour 85 = .ok (.ifCond .eq 26, 3) := by decide +kernel
theorem dX8_passHour_111 : decode cX8_passHour 111 = .ok (.aload_n 0, 1) := by decide +kernel
theorem dX8_passHour_112 : decode cX8_passHour 112 = .ok (.getfield 29, 3) := by decide +kernel
theorem dX8_passHour_115 : decode cX8_passHour 115 = .ok (.iload_n 3, 1) := by decide +kernel
theorem dX8_passHour_116 : decode cX8_passHour 116 = .ok (.iconst 5, 1) := by decide +kernel
theorem dX8_passHour_117 : decode cX8_passHour 117 = .ok (.imul, 1) := by decide +kernel
theorem dX8_passHour_118 : decode cX8_passHour 118 = .ok (.iaload, 1) := by decide +kernel
theorem dX8_passHour_119 : decode cX8_passHour 119 = .ok (.ifCond .le 9, 3) := by decide +kernel
theorem dX8_passHour_122 : decode cX8_passHour 122 = .ok (.aload_n 0, 1) := by decide +kernel
theorem dX8_passHour_123 : decode cX8_passHour 123 = .ok (.iload_n 3, 1) := by decide +kernel
theorem dX8_passHour_124 : decode cX8_passHour 124 = .ok (.aload_n 1, 1) := by decide +kernel
theorem dX8_passHour_125 : decode cX8_passHour 125 = .ok (.invokevirtual 92, 3) := by decide +kernel
theorem dX8_passHour_88 : decode cX8_passHour 88 = .ok (.aload_n 0, 1) := by decide +kernel
theorem dX8_passHour_89 : decode cX8_passHour 89 = .ok (.iload_n 3, 1) := by decide +kernel
theorem dX8_passHour_90 : decode cX8_passHour 90 = .ok (.aload_n 1, 1) := by decide +kernel
theorem dX8_passHour_91 : decode cX8_passHour 91 = .ok (.iload_n 3, 1) := by decide +kernel
theorem dX8_passHour_92 : decode cX8_passHour 92 = .ok (.iconst 2, 1) := by decide +kernel
theorem dX8_passHour_93 : decode cX8_passHour 93 = .ok (.invokevirtual 76, 3) := by decide +kernel
theorem dX8_passHour_96 : decode cX8_passHour 96 = .ok (.ifCond .eq 7, 3) := by decide +kernel
theorem dX8_passHour_103 : decode cX8_passHour 103 = .ok (.bipush 6, 2) := by decide +kernel
theorem dX8_passHour_99 : decode cX8_passHour 99 = .ok (.iconst 5, 1) := by decide +kernel
theorem dX8_passHour_100 : decode cX8_passHour 100 = .ok (.goto 5, 3) := by decide +kernel
theorem dX8_passHour_29 : decode cX8_passHour 29 = .ok (.iload_n 3, 1) := by decide +kernel
theorem dX8_passHour_30 : decode cX8_passHour 30 = .ok (.aload_n 1, 1) := by decide +kernel
theorem dX8_passHour_31 : decode cX8_passHour 31 = .ok (.getfield 73, 3) := by decide +kernel
theorem dX8_passHour_34 : decode cX8_passHour 34 = .ok (.if_icmp .ge 36, 3) := by decide +kernel
theorem dX8_passHour_70 : decode cX8_passHour 70 = .ok (.iconst 0, 1) := by decide +kernel
theorem dX8_passHour_71 : decode cX8_passHour 71 = .ok (.istore_n 3, 1) := by decide +kernel
theorem dX8_passHour_37 : decode cX8_passHour 37 = .ok (.aload_n 1, 1) := by decide +kernel
theorem dX8_passHour_38 : decode cX8_passHour 38 = .ok (.iload_n 3, 1) := by decide +kernel
theorem dX8_passHour_39 : decode cX8_passHour 39 = .ok (.iconst 0, 1) := by decide +kernel
theorem dX8_passHour_40 : decode cX8_passHour 40 = .ok (.invokevirtual 76, 3) := by decide +kernel
theorem dX8_passHour_43 : decode cX8_passHour 43 = .ok (.ifCond .eq 21, 3) := by decide +kernel
theorem dX8_passHour_46 : decode cX8_passHour 46 = .ok (.aload_n 0, 1) := by decide +kernel
theorem dX8_passHour_47 : decode cX8_passHour 47 = .ok (.getfield 29, 3) := by decide +kernel
theorem dX8_passHour_50 : decode cX8_passHour 50 = .ok (.iload_n 3, 1) := by decide +kernel
theorem dX8_passHour_51 : decode cX8_passHour 51 = .ok (.iconst 5, 1) := by decide +kernel
theorem dX8_passHour_52 : decode cX8_passHour 52 = .ok (.imul, 1) := by decide +kernel
theorem dX8_passHour_53 : decode cX8_passHour 53 = .ok (.dup2, 1) := by decide +kernel
theorem dX8_passHour_54 : decode cX8_passHour 54 = .ok (.iaload, 1) := by decide +kernel
theorem dX8_passHour_55 : decode cX8_passHour 55 = .ok (.aload_n 1, 1) := by decide +kernel
theorem dX8_passHour_56 : decode cX8_passHour 56 = .ok (.iload_n 3, 1) := by decide +kernel
theorem dX8_passHour_57 : decode cX8_passHour 57 = .ok (.aload_n 0, 1) := by decide +kernel
theorem dX8_passHour_58 : decode cX8_passHour 58 = .ok (.aload_n 2, 1) := by decide +kernel
theorem dX8_passHour_59 : decode cX8_passHour 59 = .ok (.invokevirtual 80, 3) := by decide +kernel
theorem dX8_passHour_62 : decode cX8_passHour 62 = .ok (.iadd, 1) := by decide +kernel
theorem dX8_passHour_63 : decode cX8_passHour 63 = .ok (.iastore, 1) := by decide +kernel
theorem dX8_passHour_2 : decode cX8_passHour 2 = .ok (.iload_n 3, 1) := by decide +kernel
theorem dX8_passHour_3 : decode cX8_passHour 3 = .ok (.aload_n 1, 1) := by decide +kernel
theorem dX8_passHour_4 : decode cX8_passHour 4 = .ok (.getfield 60, 3) := by decide +kernel
theorem dX8_passHour_7 : decode cX8_passHour 7 = .ok (.if_icmp .ge 20, 3) := by decide +kernel
theorem dX8_passHour_27 : decode cX8_passHour 27 = .ok (.iconst 0, 1) := by decide +kernel
theorem dX8_passHour_28 : decode cX8_passHour 28 = .ok (.istore_n 3, 1) := by decide +kernel
theorem dX8_passHour_10 : decode cX8_passHour 10 = .ok (.aload_n 0, 1) := by decide +kernel
theorem dX8_passHour_11 : decode cX8_passHour 11 = .ok (.iload_n 3, 1) := by decide +kernel
theorem dX8_passHour_12 : decode cX8_passHour 12 = .ok (.aload_n 1, 1) := by decide +kernel
theorem dX8_passHour_13 : decode cX8_passHour 13 = .ok (.getfield 65, 3) := by decide +kernel
theorem dX8_passHour_16 : decode cX8_passHour 16 = .ok (.iload_n 3, 1) := by decide +kernel
theorem dX8_passHour_17 : decode cX8_passHour 17 = .ok (.aaload, 1) := by decide +kernel
theorem dX8_passHour_18 : decode cX8_passHour 18 = .ok (.invokevirtual 69, 3) := by decide +kernel
theorem dX8_passHour_21 : decode cX8_passHour 21 = .ok (.iinc 3 1, 3) := by decide +kernel
theorem dX8_passHour_24 : decode cX8_passHour 24 = .ok (.goto (-22), 3) := by decide +kernel
theorem dX8_passHour_0 : decode cX8_passHour 0 = .ok (.iconst 0, 1) := by decide +kernel
theorem dX8_passHour_1 : decode cX8_passHour 1 = .ok (.istore_n 3, 1) := by decide +kernel
def D_X8_passHour_64 (N : Nat) (k29 : mh_H → Nat → Nat → Nat → Int32 → Option mh_H) (h : mh_H) (l0 : Nat) (l1 : Nat) (l2 : Nat) (l3 : Int32) : Option mh_H :=
  k29 h l0 l1 l2 (l3 + Int32.ofInt (1))
set_option maxHeartbeats 4000000 in
set_option maxRecDepth 100000 in
theorem T_X8_passHour_64 {P : mh_E → Prop} {N d : Nat} (hd : 47 ≤ d) {z : mh_H} {k29 : mh_H → Nat → Nat → Nat → Int32 → Option mh_H} (hk29 : ∀ (h : mh_H) (l0 : Nat) (l1 : Nat) (l2 : Nat) (l3 : Int32), k29 h l0 l1 l2 l3 = some z → mh_go P d mX8_passHour 29 [some (.ref l0), some (.ref l1), some (.ref l2), some (.int l3)] [] h none z) {h : mh_H} {l0 : Nat} {l1 : Nat} {l2 : Nat} {l3 : Int32} (hq : D_X8_passHour_64 N k29 h l0 l1 l2 l3 = some z) : mh_go P d mX8_passHour 64 [some (.ref l0), some (.ref l1), some (.ref l2), some (.int l3)] [] h none z := by
  unfold D_X8_passHour_64 at hq
  refine st_iinc (pc := 64) (lv' := [some (.ref l0), some (.ref l1), some (.ref l2), some (.int (l3 + Int32.ofInt (1)))]) dX8_passHour_64 rfl rfl (by decide) rfl ?_
  refine st_goto (pc := 67) (tgt := 29) dX8_passHour_67 (by decide) ?_
  exact hk29 _ _ _ _ _ hq
def D_X8_passHour_128 (N : Nat) (k72 : mh_H → Nat → Nat → Int32 → Option mh_H) (h : mh_H) (l0 : Nat) (l1 : Nat) (l3 : Int32) : Option mh_H :=
  k72 h l0 l1 (l3 + Int32.ofInt (1))
set_option maxHeartbeats 4000000 in
set_option maxRecDepth 100000 in
theorem T_X8_passHour_128 {P : mh_E → Prop} {N d : Nat} (hd : 47 ≤ d) {z : mh_H} {k72 : mh_H → Nat → Nat → Int32 → Option mh_H} (hk72 : ∀ (h : mh_H) (l0 : Nat) (l1 : Nat) (l3 : Int32), k72 h l0 l1 l3 = some z → mh_go P d mX8_passHour 72 [some (.ref l0), some (.ref l1), none, some (.int l3)] [] h none z) {h : mh_H} {l0 : Nat} {l1 : Nat} {l3 : Int32} (hq : D_X8_passHour_128 N k72 h l0 l1 l3 = some z) : mh_go P d mX8_passHour 128 [some (.ref l0), some (.ref l1), none, some (.int l3)] [] h none z := by
  unfold D_X8_passHour_128 at hq
  refine st_iinc (pc := 128) (lv' := [some (.ref l0), some (.ref l1), none, some (.int (l3 + Int32.ofInt (1)))]) dX8_passHour_128 rfl rfl (by decide) rfl ?_
  refine st_goto (pc := 131) (tgt := 72) dX8_passHour_131 (by decide) ?_
  exact hk72 _ _ _ _ hq
def D_X8_passHour_105 (N : Nat) (k72 : mh_H → Nat → Nat → Int32 → Option mh_H) (h : mh_H) (l0 : Nat) (l1 : Nat) (l3 : Int32) (s0 : Nat) (s1 : Int32) (s2 : Int32) : Option mh_H :=
  kO h 8 s0 <|
  (D_X8_comeOut N h s0 s1 s2).bind fun q1 =>
  D_X8_passHour_128 N k72 q1 l0 l1 l3
set_option maxHeartbeats 4000000 in
set_option maxRecDepth 100000 in
theorem T_X8_passHour_105 {P : mh_E → Prop} {N d : Nat} (hd : 47 ≤ d) {z : mh_H} {k72 : mh_H → Nat → Nat → Int32 → Option mh_H} (hk72 : ∀ (h : mh_H) (l0 : Nat) (l1 : Nat) (l3 : Int32), k72 h l0 l1 l3 = some z → mh_go P d mX8_passHour 72 [some (.ref l0), some (.ref l1), none, some (.int l3)] [] h none z) {h : mh_H} {l0 : Nat} {l1 : Nat} {l3 : Int32} {s0 : Nat} {s1 : Int32} {s2 : Int32} (hq : D_X8_passHour_105 N k72 h l0 l1 l3 s0 s1 s2 = some z) : mh_go P d mX8_passHour 105 [some (.ref l0), some (.ref l1), none, some (.int l3)] [.int s2, .int s1, .ref s0] h none z := by
  unfold D_X8_passHour_105 at hq
  obtain ⟨⟨hbq1, hkq1⟩, hq⟩ := mh_oi hq
  obtain ⟨q1, e1, hq⟩ := mh_ob hq
  refine st_invV (pc := 105) (ci := 8) (vs := [.int s1, .int s2]) (rest := []) (st2 := []) dX8_passHour_105 okX8_comeOut (by decide) hkq1 hbq1 wd_664 wd_666 wp_13 pdX8_comeOut rfl rfl rfl rfl (Nat.le_trans (by decide) hd) (Nat.le_of_ble_eq_true rfl) (T_X8_comeOut (Nat.le_refl _) e1) rfl ?_
  refine st_goto (pc := 108) (tgt := 128) dX8_passHour_108 (by decide) ?_
  exact T_X8_passHour_128 hd hk72 hq
def D_X8_passHour_72 (N : Nat) : Nat → mh_H → Nat → Nat → Int32 → Option mh_H
  | 0, _, _, _, _ => none
  | F + 1, h, l0, l1, l3 =>
    (gI h 10 l1 0).bind fun v1 =>
    if v1 ≤ l3 then ((gI h 8 l0 0).bind fun v2 =>
    (pI h 8 l0 0 (v2 + (1 : Int32))).bind fun h3 =>
    some h3)
    else (kO h 10 l1 <|
    (D_X10_isOutlet N h l1 l3).bind fun q2 =>
    if q2.1 = 0 then ((gR q2.2 8 l0 5).bind fun v3 =>
    (aI q2.2 v3 (l3 * (5 : Int32))).bind fun v4 =>
    if v4 ≤ 0 then (D_X8_passHour_128 N (D_X8_passHour_72 N F) q2.2 l0 l1 l3)
    else (kO q2.2 8 l0 <|
    (D_X8_sendOff N q2.2 l0 l3 l1).bind fun q5 =>
    D_X8_passHour_128 N (D_X8_passHour_72 N F) q5 l0 l1 l3))
    else (kO q2.2 10 l1 <|
    (D_X10_isOf N q2.2 l1 l3 (2 : Int32)).bind fun q3 =>
    if q3.1 = 0 then (D_X8_passHour_105 N (D_X8_passHour_72 N F) q3.2 l0 l1 l3 l0 l3 (6 : Int32))
    else (D_X8_passHour_105 N (D_X8_passHour_72 N F) q3.2 l0 l1 l3 l0 l3 (5 : Int32))))
set_option maxHeartbeats 4000000 in
set_option maxRecDepth 100000 in
theorem T_X8_passHour_72 {P : mh_E → Prop} {N d : Nat} (hd : 47 ≤ d) {z : mh_H} : ∀ (F : Nat) (h : mh_H) (l0 : Nat) (l1 : Nat) (l3 : Int32), D_X8_passHour_72 N F h l0 l1 l3 = some z → mh_go P d mX8_passHour 72 [some (.ref l0), some (.ref l1), none, some (.int l3)] [] h none z := by
  intro F
  induction F with
  | zero => intro h l0 l1 l3 hq; rw [D_X8_passHour_72] at hq; cases hq
  | succ F ih =>
    intro h l0 l1 l3 hq
    rw [D_X8_passHour_72] at hq
    refine st_iload_n (pc := 72) dX8_passHour_72 rfl ?_
    refine st_aload_n (pc := 73) dX8_passHour_73 rfl ?_
    refine bd_geti (pc := 74) hq dX8_passHour_74 fl_8_73_10 rfl (fun v1 hq => ?_)
    refine bd_icmp_ge (pc := 77) (tgt := 134) hq dX8_passHour_77 (by decide) (fun _ hq => ?_) (fun _ hq => ?_)
    ·
      refine st_aload_n (pc := 134) dX8_passHour_134 rfl ?_
      refine st_dup (pc := 135) dX8_passHour_135 rfl ?_
      refine bd_geti (pc := 136) hq dX8_passHour_136 fl_8_9_8 rfl (fun v2 hq => ?_)
      refine st_iconst (pc := 139) (v := (1 : Int32)) dX8_passHour_139 rfl ?_
      refine st_iadd (pc := 140) dX8_passHour_140 ?_
      refine bd_puti (pc := 141) hq dX8_passHour_141 fl_8_9_8 (Or.inl rfl) rfl (fun h3 hq => ?_)
      exact bd_vret (pc := 144) hq dX8_passHour_144 rfl
    ·
      refine st_aload_n (pc := 80) dX8_passHour_80 rfl ?_
      refine st_iload_n (pc := 81) dX8_passHour_81 rfl ?_
      obtain ⟨⟨hbq2, hkq2⟩, hq⟩ := mh_oi hq
      obtain ⟨q2, e2, hq⟩ := mh_ob hq
      refine st_invV (pc := 82) (ci := 10) (vs := [.int l3]) (rest := []) (st2 := [.int q2.1]) dX8_passHour_82 okX10_isOutlet (by decide) hkq2 hbq2 wd_663 wd_339 wd_340 pdX10_isOutlet rfl rfl rfl rfl (Nat.le_trans (by decide) hd) (Nat.le_of_ble_eq_true rfl) (T_X10_isOutlet (Nat.le_refl _) e2) rfl ?_
      refine bd_if_eq (pc := 85) (tgt := 111) hq dX8_passHour_85 (by decide) (fun _ hq => ?_) (fun _ hq => ?_)
      ·
        refine st_aload_n (pc := 111) dX8_passHour_111 rfl ?_
        refine bd_getr (pc := 112) hq dX8_passHour_112 fl_8_29_8 rfl (fun v3 hq => ?_)
        refine st_iload_n (pc := 115) dX8_passHour_115 rfl ?_
        refine st_iconst (pc := 116) (v := (5 : Int32)) dX8_passHour_116 rfl ?_
        refine st_imul (pc := 117) dX8_passHour_117 ?_
        refine bd_iald (pc := 118) hq dX8_passHour_118 (fun v4 hq => ?_)
        refine bd_if_le (pc := 119) (tgt := 128) hq dX8_passHour_119 (by decide) (fun _ hq => ?_) (fun _ hq => ?_)
        ·
          exact T_X8_passHour_128 hd ih hq
        ·
          refine st_aload_n (pc := 122) dX8_passHour_122 rfl ?_
          refine st_iload_n (pc := 123) dX8_passHour_123 rfl ?_
          refine st_aload_n (pc := 124) dX8_passHour_124 rfl ?_
          obtain ⟨⟨hbq5, hkq5⟩, hq⟩ := mh_oi hq
          obtain ⟨q5, e5, hq⟩ := mh_ob hq
          refine st_invV (pc := 125) (ci := 8) (vs := [.int l3, .ref l1]) (rest := []) (st2 := []) dX8_passHour_125 okX8_sendOff (by decide) hkq5 hbq5 wd_668 wd_670 wp_14 pdX8_sendOff rfl rfl rfl rfl (Nat.le_trans (by decide) hd) (Nat.le_of_ble_eq_true rfl) (T_X8_sendOff (Nat.le_refl _) e5) rfl ?_
          exact T_X8_passHour_128 hd ih hq
      ·
        refine st_aload_n (pc := 88) dX8_passHour_88 rfl ?_
        refine st_iload_n (pc := 89) dX8_passHour_89 rfl ?_
        refine st_aload_n (pc := 90) dX8_passHour_90 rfl ?_
        refine st_iload_n (pc := 91) dX8_passHour_91 rfl ?_
        refine st_iconst (pc := 92) (v := (2 : Int32)) dX8_passHour_92 rfl ?_
        obtain ⟨⟨hbq3, hkq3⟩, hq⟩ := mh_oi hq
        obtain ⟨q3, e3, hq⟩ := mh_ob hq
        refine st_invV (pc := 93) (ci := 10) (vs := [.int l3, .int (2 : Int32)]) (rest := [.int l3, .ref l0]) (st2 := [.int q3.1, .int l3, .ref l0]) dX8_passHour_93 okX10_isOf (by decide) hkq3 hbq3 wd_529 wd_343 wd_344 pdX10_isOf rfl rfl rfl rfl (Nat.le_trans (by decide) hd) (Nat.le_of_ble_eq_true rfl) (T_X10_isOf (Nat.le_refl _) e3) rfl ?_
        refine bd_if_eq (pc := 96) (tgt := 103) hq dX8_passHour_96 (by decide) (fun _ hq => ?_) (fun _ hq => ?_)
        ·
          refine st_bipush (pc := 103) (v := (6 : Int32)) dX8_passHour_103 (by decide) ?_
          exact T_X8_passHour_105 hd ih hq
        ·
          refine st_iconst (pc := 99) (v := (5 : Int32)) dX8_passHour_99 rfl ?_
          refine st_goto (pc := 100) (tgt := 105) dX8_passHour_100 (by decide) ?_
          exact T_X8_passHour_105 hd ih hq
def D_X8_passHour_29 (N : Nat) : Nat → mh_H → Nat → Nat → Nat → Int32 → Option mh_H
  | 0, _, _, _, _, _ => none
  | F + 1, h, l0, l1, l2, l3 =>
    (gI h 10 l1 0).bind fun v1 =>
    if v1 ≤ l3 then (D_X8_passHour_72 N N h l0 l1 (0 : Int32))
    else (kO h 10 l1 <|
    (D_X10_isOf N h l1 l3 (0 : Int32)).bind fun q2 =>
    if q2.1 = 0 then (D_X8_passHour_64 N (D_X8_passHour_29 N F) q2.2 l0 l1 l2 l3)
    else ((gR q2.2 8 l0 5).bind fun v3 =>
    (aI q2.2 v3 (l3 * (5 : Int32))).bind fun v4 =>
    kO q2.2 10 l1 <|
    (D_X10_rainOn N q2.2 l1 l3 l0 l2).bind fun q5 =>
    (uI q5.2 v3 (l3 * (5 : Int32)) (v4 + q5.1)).bind fun h6 =>
    D_X8_passHour_64 N (D_X8_passHour_29 N F) h6 l0 l1 l2 l3))
set_option maxHeartbeats 4000000 in
set_option maxRecDepth 100000 in
theorem T_X8_passHour_29 {P : mh_E → Prop} {N d : Nat} (hd : 47 ≤ d) {z : mh_H} : ∀ (F : Nat) (h : mh_H) (l0 : Nat) (l1 : Nat) (l2 : Nat) (l3 : Int32), D_X8_passHour_29 N F h l0 l1 l2 l3 = some z → mh_go P d mX8_passHour 29 [some (.ref l0), some (.ref l1), some (.ref l2), some (.int l3)] [] h none z := by
  intro F
  induction F with
  | zero => intro h l0 l1 l2 l3 hq; rw [D_X8_passHour_29] at hq; cases hq
  | succ F ih =>
    intro h l0 l1 l2 l3 hq
    rw [D_X8_passHour_29] at hq
    refine st_iload_n (pc := 29) dX8_passHour_29 rfl ?_
    refine st_aload_n (pc := 30) dX8_passHour_30 rfl ?_
    refine bd_geti (pc := 31) hq dX8_passHour_31 fl_8_73_10 rfl (fun v1 hq => ?_)
    refine bd_icmp_ge (pc := 34) (tgt := 70) hq dX8_passHour_34 (by decide) (fun _ hq => ?_) (fun _ hq => ?_)
    ·
      refine st_iconst (pc := 70) (v := (0 : Int32)) dX8_passHour_70 rfl ?_
      refine st_istore_n (pc := 71) (lv' := [some (.ref l0), some (.ref l1), some (.ref l2), some (.int (0 : Int32))]) dX8_passHour_71 rfl (by decide) rfl ?_
      refine st_lesS (lv' := [some (.ref l0), some (.ref l1), none, some (.int (0 : Int32))]) ⟨Or.inr rfl, Or.inr rfl, Or.inl rfl, Or.inr rfl, trivial⟩ ?_
      exact T_X8_passHour_72 hd N _ _ _ _ hq
    ·
      refine st_aload_n (pc := 37) dX8_passHour_37 rfl ?_
      refine st_iload_n (pc := 38) dX8_passHour_38 rfl ?_
      refine st_iconst (pc := 39) (v := (0 : Int32)) dX8_passHour_39 rfl ?_
      obtain ⟨⟨hbq2, hkq2⟩, hq⟩ := mh_oi hq
      obtain ⟨q2, e2, hq⟩ := mh_ob hq
      refine st_invV (pc := 40) (ci := 10) (vs := [.int l3, .int (0 : Int32)]) (rest := []) (st2 := [.int q2.1]) dX8_passHour_40 okX10_isOf (by decide) hkq2 hbq2 wd_529 wd_343 wd_344 pdX10_isOf rfl rfl rfl rfl (Nat.le_trans (by decide) hd) (Nat.le_of_ble_eq_true rfl) (T_X10_isOf (Nat.le_refl _) e2) rfl ?_
      refine bd_if_eq (pc := 43) (tgt := 64) hq dX8_passHour_43 (by decide) (fun _ hq => ?_) (fun _ hq => ?_)
      ·
        exact T_X8_passHour_64 hd ih hq
      ·
        refine st_aload_n (pc := 46) dX8_passHour_46 rfl ?_
        refine bd_getr (pc := 47) hq dX8_passHour_47 fl_8_29_8 rfl (fun v3 hq => ?_)
        refine st_iload_n (pc := 50) dX8_passHour_50 rfl ?_
        refine st_iconst (pc := 51) (v := (5 : Int32)) dX8_passHour_51 rfl ?_
        refine st_imul (pc := 52) dX8_passHour_52 ?_
        refine st_dup2 (pc := 53) dX8_passHour_53 rfl rfl ?_
        refine bd_iald (pc := 54) hq dX8_passHour_54 (fun v4 hq => ?_)
        refine st_aload_n (pc := 55) dX8_passHour_55 rfl ?_
        refine st_iload_n (pc := 56) dX8_passHour_56 rfl ?_
        refine st_aload_n (pc := 57) dX8_passHour_57 rfl ?_
        refine st_aload_n (pc := 58) dX8_passHour_58 rfl ?_
        obtain ⟨⟨hbq5, hkq5⟩, hq⟩ := mh_oi hq
        obtain ⟨q5, e5, hq⟩ := mh_ob hq
        refine st_invV (pc := 59) (ci := 10) (vs := [.int l3, .ref l0, .ref l2]) (rest := [.int v4, .int (l3 * (5 : Int32)), .ref v3]) (st2 := [.int q5.1, .int v4, .int (l3 * (5 : Int32)), .ref v3]) dX8_passHour_59 okX10_rainOn (by decide) hkq5 hbq5 wd_530 wd_531 wd_532 pdX10_rainOn rfl rfl rfl rfl (Nat.le_trans (by decide) hd) (Nat.le_of_ble_eq_true rfl) (T_X10_rainOn (Nat.le_refl _) e5) rfl ?_
        refine st_iadd (pc := 62) dX8_passHour_62 ?_
        refine bd_iast (pc := 63) hq dX8_passHour_63 (fun h6 hq => ?_)
        exact T_X8_passHour_64 hd ih hq
def D_X8_passHour_2 (N : Nat) : Nat → mh_H → Nat → Nat → Nat → Int32 → Option mh_H
  | 0, _, _, _, _, _ => none
  | F + 1, h, l0, l1, l2, l3 =>
    (gI h 10 l1 1).bind fun v1 =>
    if v1 ≤ l3 then (D_X8_passHour_29 N N h l0 l1 l2 (0 : Int32))
    else ((gR h 10 l1 6).bind fun v2 =>
    (aR h v2 l3).bind fun v3 =>
    kO h 8 l0 <|
    (D_X8_leave N h l0 l3 v3).bind fun q4 =>
    (D_X8_passHour_2 N F) q4 l0 l1 l2 (l3 + Int32.ofInt (1)))
set_option maxHeartbeats 4000000 in
set_option maxRecDepth 100000 in
theorem T_X8_passHour_2 {P : mh_E → Prop} {N d : Nat} (hd : 47 ≤ d) {z : mh_H} : ∀ (F : Nat) (h : mh_H) (l0 : Nat) (l1 : Nat) (l2 : Nat) (l3 : Int32), D_X8_passHour_2 N F h l0 l1 l2 l3 = some z → mh_go P d mX8_passHour 2 [some (.ref l0), some (.ref l1), some (.ref l2), some (.int l3)] [] h none z := by
  intro F
  induction F with
  | zero => intro h l0 l1 l2 l3 hq; rw [D_X8_passHour_2] at hq; cases hq
  | succ F ih =>
    intro h l0 l1 l2 l3 hq
    rw [D_X8_passHour_2] at hq
    refine st_iload_n (pc := 2) dX8_passHour_2 rfl ?_
    refine st_aload_n (pc := 3) dX8_passHour_3 rfl ?_
    refine bd_geti (pc := 4) hq dX8_passHour_4 fl_8_60_10 rfl (fun v1 hq => ?_)
    refine bd_icmp_ge (pc := 7) (tgt := 27) hq dX8_passHour_7 (by decide) (fun _ hq => ?_) (fun _ hq => ?_)
    ·
      refine st_iconst (pc := 27) (v := (0 : Int32)) dX8_passHour_27 rfl ?_
      refine st_istore_n (pc := 28) (lv' := [some (.ref l0), some (.ref l1), some (.ref l2), some (.int (0 : Int32))]) dX8_passHour_28 rfl (by decide) rfl ?_
      exact T_X8_passHour_29 hd N _ _ _ _ _ hq
    ·
      refine st_aload_n (pc := 10) dX8_passHour_10 rfl ?_
      refine st_iload_n (pc := 11) dX8_passHour_11 rfl ?_
      refine st_aload_n (pc := 12) dX8_passHour_12 rfl ?_
      refine bd_getr (pc := 13) hq dX8_passHour_13 fl_8_65_10 rfl (fun v2 hq => ?_)
      refine st_iload_n (pc := 16) dX8_passHour_16 rfl ?_
      refine bd_aald (pc := 17) hq dX8_passHour_17 (fun v3 hq => ?_)
      obtain ⟨⟨hbq4, hkq4⟩, hq⟩ := mh_oi hq
      obtain ⟨q4, e4, hq⟩ := mh_ob hq
      refine st_invV (pc := 18) (ci := 8) (vs := [.int l3, .ref v3]) (rest := []) (st2 := []) dX8_passHour_18 okX8_leave (by decide) hkq4 hbq4 wd_505 wd_507 wp_2 pdX8_leave rfl rfl rfl rfl (Nat.le_trans (by decide) hd) (Nat.le_of_ble_eq_true rfl) (T_X8_leave (Nat.le_refl _) e4) rfl ?_
      refine st_iinc (pc := 21) (lv' := [some (.ref l0), some (.ref l1), some (.ref l2), some (.int (l3 + Int32.ofInt (1)))]) dX8_passHour_21 rfl rfl (by decide) rfl ?_
      refine st_goto (pc := 24) (tgt := 2) dX8_passHour_24 (by decide) ?_
      exact ih _ _ _ _ _ hq
def D_X8_passHour (N : Nat) (h : mh_H) (l0 : Nat) (l1 : Nat) (l2 : Nat) : Option mh_H :=
  D_X8_passHour_2 N N h l0 l1 l2 (0 : Int32)
set_option maxHeartbeats 4000000 in
set_option maxRecDepth 100000 in
theorem T_X8_passHour {P : mh_E → Prop} {N d : Nat} (hd : 47 ≤ d) {z : mh_H} {h : mh_H} {l0 : Nat} {l1 : Nat} {l2 : Nat} (hq : D_X8_passHour N h l0 l1 l2 = some z) : mh_go P d mX8_passHour 0 [some (.ref l0), some (.ref l1), some (.ref l2), none] [] h none z := by
  unfold D_X8_passHour at hq
  refine st_iconst (pc := 0) (v := (0 : Int32)) dX8_passHour_0 rfl ?_
  refine st_istore_n (pc := 1) (lv' := [some (.ref l0), some (.ref l1), some (.ref l2), some (.int (0 : Int32))]) dX8_passHour_1 rfl (by decide) rfl ?_
  exact T_X8_passHour_2 hd N _ _ _ _ _ hq
-- HoleWater.hours(I)I
theorem dX11_hours_42 : decode cX11_hours 42 = .ok (.iload_n 2, 1) := by decide +kernel
theorem dX11_hours_43 : decode cX11_hours 43 = .ok (.iload_n 1, 1) := by decide +kernel
theorem dX11_hours_44 : decode cX11_hours 44 = .ok (.if_icmp .ge 27, 3) := by decide +kernel
theorem dX11_hours_71 : decode cX11_hours 71 = .ok (.aload_n 0, 1) := by decide +kernel
theorem dX11_hours_72 : decode cX11_hours 72 = .ok (.getfield 10, 3) := by decide +kernel
theorem dX11_hours_75 : decode cX11_hours 75 = .ok (.getfield 90, 3) := by decide +kernel
theorem dX11_hours_78 : decode cX11_hours 78 = .ok (.getfield 189, 3) := by decide +kernel
theorem dX11_hours_81 : decode cX11_hours 81 = .ok (.ireturn, 1) := by decide +kernel
theorem dX11_hours_47 : decode cX11_hours 47 = .ok (.aload_n 0, 1) := by decide +kernel
theorem dX11_hours_48 : decode cX11_hours 48 = .ok (.getfield 10, 3) := by decide +kernel
theorem dX11_hours_51 : decode cX11_hours 51 = .ok (.getfield 90, 3) := by decide +kernel
theorem dX11_hours_54 : decode cX11_hours 54 = .ok (.aload_n 0, 1) := by decide +kernel
theorem dX11_hours_55 : decode cX11_hours 55 = .ok (.getfield 10, 3) := by decide +kernel
theorem dX11_hours_58 : decode cX11_hours 58 = .ok (.aload_n 0, 1) := by decide +kernel
theorem dX11_hours_59 : decode cX11_hours 59 = .ok (.getfield 29, 3) := by decide +kernel
theorem dX11_hours_62 : decode cX11_hours 62 = .ok (.invokevirtual 192, 3) := by decide +kernel
theorem dX11_hours_65 : decode cX11_hours 65 = .ok (.iinc 2 1, 3) := by decide +kernel
theorem dX11_hours_68 : decode cX11_hours 68 = .ok (.goto (-26), 3) := by decide +kernel
theorem dX11_hours_0 : decode cX11_hours 0 = .ok (.iload_n 1, 1) := by decide +kernel
theorem dX11_hours_1 : decode cX11_hours 1 = .ok (.iconst 1, 1) := by decide +kernel
theorem dX11_hours_2 : decode cX11_hours 2 = .ok (.bipush 60, 2) := by decide +kernel
theorem dX11_hours_4 : decode cX11_hours 4 = .ok (.invokestatic 62, 3) := by decide +kernel
theorem dX11_hours_7 : decode cX11_hours 7 = .ok (.ifCond .ne 9, 3) := by decide +kernel
theorem dX11_hours_10 : decode cX11_hours 10 = .ok (.aload_n 0, 1) := by decide +kernel
theorem dX11_hours_11 : decode cX11_hours 11 = .ok (.iconst 1, 1) := by decide +kernel
theorem dX11_hours_12 : decode cX11_hours 12 = .ok (.invokevirtual 66, 3) := by decide +kernel
theorem dX11_hours_15 : decode cX11_hours 15 = .ok (.ireturn, 1) := by decide +kernel
theorem dX11_hours_16 : decode cX11_hours 16 = .ok (.aload_n 0, 1) := by decide +kernel
theorem dX11_hours_17 : decode cX11_hours 17 = .ok (.getfield 10, 3) := by decide +kernel
theorem dX11_hours_20 : decode cX11_hours 20 = .ok (.getfield 90, 3) := by decide +kernel
theorem dX11_hours_23 : decode cX11_hours 23 = .ok (.getfield 189, 3) := by decide +kernel
theorem dX11_hours_26 : decode cX11_hours 26 = .ok (.iload_n 1, 1) := by decide +kernel
theorem dX11_hours_27 : decode cX11_hours 27 = .ok (.iadd, 1) := by decide +kernel
theorem dX11_hours_28 : decode cX11_hours 28 = .ok (.sipush 999, 3) := by decide +kernel
theorem dX11_hours_31 : decode cX11_hours 31 = .ok (.if_icmp .le 9, 3) := by decide +kernel
theorem dX11_hours_40 : decode cX11_hours 40 = .ok (.iconst 0, 1) := by decide +kernel
theorem dX11_hours_41 : decode cX11_hours 41 = .ok (.istore_n 2, 1) := by decide +kernel
theorem dX11_hours_34 : decode cX11_hours 34 = .ok (.aload_n 0, 1) := by decide +kernel
theorem dX11_hours_35 : decode cX11_hours 35 = .ok (.iconst 3, 1) := by decide +kernel
theorem dX11_hours_36 : decode cX11_hours 36 = .ok (.invokevirtual 66, 3) := by decide +kernel
theorem dX11_hours_39 : decode cX11_hours 39 = .ok (.ireturn, 1) := by decide +kernel
def D_X11_hours_42 (N : Nat) : Nat → mh_H → Nat → Int32 → Int32 → Option (Int32 × mh_H)
  | 0, _, _, _, _ => none
  | F + 1, h, l0, l1, l2 =>
    if l1 ≤ l2 then ((gR h 11 l0 0).bind fun v1 =>
    (gR h 10 v1 7).bind fun v2 =>
    (gI h 8 v2 0).bind fun v3 =>
    some (v3, h))
    else ((gR h 11 l0 0).bind fun v1 =>
    (gR h 10 v1 7).bind fun v2 =>
    (gR h 11 l0 0).bind fun v3 =>
    (gR h 11 l0 3).bind fun v4 =>
    kO h 8 v2 <|
    (D_X8_passHour N h v2 v3 v4).bind fun q5 =>
    (D_X11_hours_42 N F) q5 l0 l1 (l2 + Int32.ofInt (1)))
set_option maxHeartbeats 4000000 in
set_option maxRecDepth 100000 in
theorem T_X11_hours_42 {P : mh_E → Prop} {N d : Nat} (hd : 48 ≤ d) {z : (Int32 × mh_H)} : ∀ (F : Nat) (h : mh_H) (l0 : Nat) (l1 : Int32) (l2 : Int32), D_X11_hours_42 N F h l0 l1 l2 = some z → mh_go P d mX11_hours 42 [some (.ref l0), some (.int l1), some (.int l2)] [] h (some (.int z.1)) z.2 := by
  intro F
  induction F with
  | zero => intro h l0 l1 l2 hq; rw [D_X11_hours_42] at hq; cases hq
  | succ F ih =>
    intro h l0 l1 l2 hq
    rw [D_X11_hours_42] at hq
    refine st_iload_n (pc := 42) dX11_hours_42 rfl ?_
    refine st_iload_n (pc := 43) dX11_hours_43 rfl ?_
    refine bd_icmp_ge (pc := 44) (tgt := 71) hq dX11_hours_44 (by decide) (fun _ hq => ?_) (fun _ hq => ?_)
    ·
      refine st_aload_n (pc := 71) dX11_hours_71 rfl ?_
      refine bd_getr (pc := 72) hq dX11_hours_72 fl_11_10_11 rfl (fun v1 hq => ?_)
      refine bd_getr (pc := 75) hq dX11_hours_75 fl_11_90_10 rfl (fun v2 hq => ?_)
      refine bd_geti (pc := 78) hq dX11_hours_78 fl_11_189_8 rfl (fun v3 hq => ?_)
      exact bd_iret (pc := 81) hq dX11_hours_81 rfl
    ·
      refine st_aload_n (pc := 47) dX11_hours_47 rfl ?_
      refine bd_getr (pc := 48) hq dX11_hours_48 fl_11_10_11 rfl (fun v1 hq => ?_)
      refine bd_getr (pc := 51) hq dX11_hours_51 fl_11_90_10 rfl (fun v2 hq => ?_)
      refine st_aload_n (pc := 54) dX11_hours_54 rfl ?_
      refine bd_getr (pc := 55) hq dX11_hours_55 fl_11_10_11 rfl (fun v3 hq => ?_)
      refine st_aload_n (pc := 58) dX11_hours_58 rfl ?_
      refine bd_getr (pc := 59) hq dX11_hours_59 fl_11_29_11 rfl (fun v4 hq => ?_)
      obtain ⟨⟨hbq5, hkq5⟩, hq⟩ := mh_oi hq
      obtain ⟨q5, e5, hq⟩ := mh_ob hq
      refine st_invV (pc := 62) (ci := 8) (vs := [.ref v3, .ref v4]) (rest := []) (st2 := []) dX11_hours_62 okX8_passHour (by decide) hkq5 hbq5 wd_501 wd_502 wd_503 pdX8_passHour rfl rfl rfl rfl (Nat.le_trans (by decide) hd) (Nat.le_of_ble_eq_true rfl) (T_X8_passHour (Nat.le_refl _) e5) rfl ?_
      refine st_iinc (pc := 65) (lv' := [some (.ref l0), some (.int l1), some (.int (l2 + Int32.ofInt (1)))]) dX11_hours_65 rfl rfl (by decide) rfl ?_
      refine st_goto (pc := 68) (tgt := 42) dX11_hours_68 (by decide) ?_
      exact ih _ _ _ _ hq
def D_X11_hours (N : Nat) (h : mh_H) (l0 : Nat) (l1 : Int32) : Option (Int32 × mh_H) :=
  (D_X11_within N h l1 (1 : Int32) (60 : Int32)).bind fun q1 =>
  if q1.1 = 0 then (kO q1.2 11 l0 <|
  (D_X11_error N q1.2 l0 (1 : Int32)).bind fun q2 =>
  some (q2.1, q2.2))
  else ((gR q1.2 11 l0 0).bind fun v2 =>
  (gR q1.2 10 v2 7).bind fun v3 =>
  (gI q1.2 8 v3 0).bind fun v4 =>
  if (v4 + l1) ≤ (999 : Int32) then (D_X11_hours_42 N N q1.2 l0 l1 (0 : Int32))
  else (kO q1.2 11 l0 <|
  (D_X11_error N q1.2 l0 (3 : Int32)).bind fun q5 =>
  some (q5.1, q5.2)))
set_option maxHeartbeats 4000000 in
set_option maxRecDepth 100000 in
theorem T_X11_hours {P : mh_E → Prop} {N d : Nat} (hd : 48 ≤ d) {z : (Int32 × mh_H)} {h : mh_H} {l0 : Nat} {l1 : Int32} (hq : D_X11_hours N h l0 l1 = some z) : mh_go P d mX11_hours 0 [some (.ref l0), some (.int l1), none] [] h (some (.int z.1)) z.2 := by
  unfold D_X11_hours at hq
  refine st_iload_n (pc := 0) dX11_hours_0 rfl ?_
  refine st_iconst (pc := 1) (v := (1 : Int32)) dX11_hours_1 rfl ?_
  refine st_bipush (pc := 2) (v := (60 : Int32)) dX11_hours_2 (by decide) ?_
  obtain ⟨q1, e1, hq⟩ := mh_ob hq
  refine st_invS (pc := 4) (Y := mX11_within) (vs := [.int l1, .int (1 : Int32), .int (60 : Int32)]) (rest := []) (st2 := [.int q1.1]) dX11_hours_4 okX11_within wd_311 wd_312 pdX11_within rfl rfl rfl rfl (Nat.le_trans (by decide) hd) (Nat.le_of_ble_eq_true rfl) (T_X11_within (Nat.le_refl _) e1) rfl ?_
  refine bd_if_ne (pc := 7) (tgt := 16) hq dX11_hours_7 (by decide) (fun _ hq => ?_) (fun _ hq => ?_)
  ·
    refine st_aload_n (pc := 10) dX11_hours_10 rfl ?_
    refine st_iconst (pc := 11) (v := (1 : Int32)) dX11_hours_11 rfl ?_
    obtain ⟨⟨hbq2, hkq2⟩, hq⟩ := mh_oi hq
    obtain ⟨q2, e2, hq⟩ := mh_ob hq
    refine st_invV (pc := 12) (ci := 11) (vs := [.int (1 : Int32)]) (rest := []) (st2 := [.int q2.1]) dX11_hours_12 okX11_error (by decide) hkq2 hbq2 wd_314 wd_316 wp_0 pdX11_error rfl rfl rfl rfl (Nat.le_trans (by decide) hd) (Nat.le_of_ble_eq_true rfl) (T_X11_error (Nat.le_refl _) e2) rfl ?_
    exact bd_iret (pc := 15) hq dX11_hours_15 rfl
  ·
    refine st_aload_n (pc := 16) dX11_hours_16 rfl ?_
    refine bd_getr (pc := 17) hq dX11_hours_17 fl_11_10_11 rfl (fun v2 hq => ?_)
    refine bd_getr (pc := 20) hq dX11_hours_20 fl_11_90_10 rfl (fun v3 hq => ?_)
    refine bd_geti (pc := 23) hq dX11_hours_23 fl_11_189_8 rfl (fun v4 hq => ?_)
    refine st_iload_n (pc := 26) dX11_hours_26 rfl ?_
    refine st_iadd (pc := 27) dX11_hours_27 ?_
    refine st_sipush (pc := 28) (v := (999 : Int32)) dX11_hours_28 (by decide) ?_
    refine bd_icmp_le (pc := 31) (tgt := 40) hq dX11_hours_31 (by decide) (fun _ hq => ?_) (fun _ hq => ?_)
    ·
      refine st_iconst (pc := 40) (v := (0 : Int32)) dX11_hours_40 rfl ?_
      refine st_istore_n (pc := 41) (lv' := [some (.ref l0), some (.int l1), some (.int (0 : Int32))]) dX11_hours_41 rfl (by decide) rfl ?_
      exact T_X11_hours_42 hd N _ _ _ _ hq
    ·
      refine st_aload_n (pc := 34) dX11_hours_34 rfl ?_
      refine st_iconst (pc := 35) (v := (3 : Int32)) dX11_hours_35 rfl ?_
      obtain ⟨⟨hbq5, hkq5⟩, hq⟩ := mh_oi hq
      obtain ⟨q5, e5, hq⟩ := mh_ob hq
      refine st_invV (pc := 36) (ci := 11) (vs := [.int (3 : Int32)]) (rest := []) (st2 := [.int q5.1]) dX11_hours_36 okX11_error (by decide) hkq5 hbq5 wd_314 wd_316 wp_0 pdX11_error rfl rfl rfl rfl (Nat.le_trans (by decide) hd) (Nat.le_of_ble_eq_true rfl) (T_X11_error (Nat.le_refl _) e5) rfl ?_
      exact bd_iret (pc := 39) hq dX11_hours_39 rfl
-- HoleWater$Looks.addPut(IIII)I
theorem dX1_addPut_0 : decode cX1_addPut 0 = .ok (.aload_n 0, 1) := by decide +kernel
theorem dX1_addPut_1 : decode cX1_addPut 1 = .ok (.getfield 9, 3) := by decide +kernel
theorem dX1_addPut_4 : decode cX1_addPut 4 = .ok (.bipush 40, 2) := by decide +kernel
theorem dX1_addPut_6 : decode cX1_addPut 6 = .ok (.if_icmp .lt 5, 3) := by decide +kernel
theorem dX1_addPut_11 : decode cX1_addPut 11 = .ok (.aload_n 0, 1) := by decide +kernel
theorem dX1_addPut_12 : decode cX1_addPut 12 = .ok (.getfield 9, 3) := by decide +kernel
theorem dX1_addPut_15 : decode cX1_addPut 15 = .ok (.iconst 4, 1) := by decide +kernel
theorem dX1_addPut_16 : decode cX1_addPut 16 = .ok (.imul, 1) := by decide +kernel
theorem dX1_addPut_17 : decode cX1_addPut 17 = .ok (.istore 5, 2) := by decide +kernel
theorem dX1_addPut_19 : decode cX1_addPut 19 = .ok (.aload_n 0, 1) := by decide +kernel
theorem dX1_addPut_20 : decode cX1_addPut 20 = .ok (.getfield 18, 3) := by decide +kernel
theorem dX1_addPut_23 : decode cX1_addPut 23 = .ok (.iload 5, 2) := by decide +kernel
theorem dX1_addPut_25 : decode cX1_addPut 25 = .ok (.iload_n 1, 1) := by decide +kernel
theorem dX1_addPut_26 : decode cX1_addPut 26 = .ok (.iastore, 1) := by decide +kernel
theorem dX1_addPut_27 : decode cX1_addPut 27 = .ok (.aload_n 0, 1) := by decide +kernel
theorem dX1_addPut_28 : decode cX1_addPut 28 = .ok (.getfield 18, 3) := by decide +kernel
theorem dX1_addPut_31 : decode cX1_addPut 31 = .ok (.iload 5, 2) := by decide +kernel
theorem dX1_addPut_33 : decode cX1_addPut 33 = .ok (.iconst 1, 1) := by decide +kernel
theorem dX1_addPut_34 : decode cX1_addPut 34 = .ok (.iadd, 1) := by decide +kernel
theorem dX1_addPut_35 : decode cX1_addPut 35 = .ok (.iload_n 2, 1) := by decide +kernel
theorem dX1_addPut_36 : decode cX1_addPut 36 = .ok (.iastore, 1) := by decide +kernel
theorem dX1_addPut_37 : decode cX1_addPut 37 = .ok (.aload_n 0, 1) := by decide +kernel
theorem dX1_addPut_38 : decode cX1_addPut 38 = .ok (.getfield 18, 3) := by decide +kernel
theorem dX1_addPut_41 : decode cX1_addPut 41 = .ok (.iload 5, 2) := by decide +kernel
theorem dX1_addPut_43 : decode cX1_addPut 43 = .ok (.iconst 2, 1) := by decide +kernel
theorem dX1_addPut_44 : decode cX1_addPut 44 = .ok (.iadd, 1) := by decide +kernel
theorem dX1_addPut_45 : decode cX1_addPut 45 = .ok (.iload_n 3, 1) := by decide +kernel
theorem dX1_addPut_46 : decode cX1_addPut 46 = .ok (.iastore, 1) := by decide +kernel
theorem dX1_addPut_47 : decode cX1_addPut 47 = .ok (.aload_n 0, 1) := by decide +kernel
theorem dX1_addPut_48 : decode cX1_addPut 48 = .ok (.getfield 18, 3) := by decide +kernel
theorem dX1_addPut_51 : decode cX1_addPut 51 = .ok (.iload 5, 2) := by decide +kernel
theorem dX1_addPut_53 : decode cX1_addPut 53 = .ok (.iconst 3, 1) := by decide +kernel
theorem dX1_addPut_54 : decode cX1_addPut 54 = .ok (.iadd, 1) := by decide +kernel
theorem dX1_addPut_55 : decode cX1_addPut 55 = .ok (.iload 4, 2) := by decide +kernel
theorem dX1_addPut_57 : decode cX1_addPut 57 = .ok (.iastore, 1) := by decide +kernel
theorem dX1_addPut_58 : decode cX1_addPut 58 = .ok (.aload_n 0, 1) := by decide +kernel
theorem dX1_addPut_59 : decode cX1_addPut 59 = .ok (.dup, 1) := by decide +kernel
theorem dX1_addPut_60 : decode cX1_addPut 60 = .ok (.getfield 9, 3) := by decide +kernel
theorem dX1_addPut_63 : decode cX1_addPut 63 = .ok (.iconst 1, 1) := by decide +kernel
theorem dX1_addPut_64 : decode cX1_addPut 64 = .ok (.iadd, 1) := by decide +kernel
theorem dX1_addPut_65 : decode cX1_addPut 65 = .ok (.putfield 9, 3) := by decide +kernel
theorem dX1_addPut_68 : decode cX1_addPut 68 = .ok (.aload_n 0, 1) := by decide +kernel
theorem dX1_addPut_69 : decode cX1_addPut 69 = .ok (.getfield 9, 3) := by decide +kernel
theorem dX1_addPut_72 : decode cX1_addPut 72 = .ok (.iconst 1, 1) := by decide +kernel
theorem dX1_addPut_73 : decode cX1_addPut 73 = .ok (.isub, 1) := by decide +kernel
theorem dX1_addPut_74 : decode cX1_addPut 74 = .ok (.ireturn, 1) := by decide +kernel
theorem dX1_addPut_9 : decode cX1_addPut 9 = .ok (.iconst (-1), 1) := by decide +kernel
theorem dX1_addPut_10 : decode cX1_addPut 10 = .ok (.ireturn, 1) := by decide +kernel
def D_X1_addPut (N : Nat) (h : mh_H) (l0 : Nat) (l1 : Int32) (l2 : Int32) (l3 : Int32) (l4 : Int32) : Option (Int32 × mh_H) :=
  (gI h 1 l0 0).bind fun v1 =>
  if v1 < (40 : Int32) then ((gI h 1 l0 0).bind fun v2 =>
  (gR h 1 l0 2).bind fun v3 =>
  (uI h v3 (v2 * (4 : Int32)) l1).bind fun h4 =>
  (gR h4 1 l0 2).bind fun v5 =>
  (uI h4 v5 ((v2 * (4 : Int32)) + (1 : Int32)) l2).bind fun h6 =>
  (gR h6 1 l0 2).bind fun v7 =>
  (uI h6 v7 ((v2 * (4 : Int32)) + (2 : Int32)) l3).bind fun h8 =>
  (gR h8 1 l0 2).bind fun v9 =>
  (uI h8 v9 ((v2 * (4 : Int32)) + (3 : Int32)) l4).bind fun h10 =>
  (gI h10 1 l0 0).bind fun v11 =>
  (pI h10 1 l0 0 (v11 + (1 : Int32))).bind fun h12 =>
  (gI h12 1 l0 0).bind fun v13 =>
  some (v13 - (1 : Int32), h12))
  else (some ((-1 : Int32), h))
set_option maxHeartbeats 4000000 in
set_option maxRecDepth 100000 in
theorem T_X1_addPut {P : mh_E → Prop} {N d : Nat} (hd : 1 ≤ d) {z : (Int32 × mh_H)} {h : mh_H} {l0 : Nat} {l1 : Int32} {l2 : Int32} {l3 : Int32} {l4 : Int32} (hq : D_X1_addPut N h l0 l1 l2 l3 l4 = some z) : mh_go P d mX1_addPut 0 [some (.ref l0), some (.int l1), some (.int l2), some (.int l3), some (.int l4), none] [] h (some (.int z.1)) z.2 := by
  unfold D_X1_addPut at hq
  refine st_aload_n (pc := 0) dX1_addPut_0 rfl ?_
  refine bd_geti (pc := 1) hq dX1_addPut_1 fl_1_9_1 rfl (fun v1 hq => ?_)
  refine st_bipush (pc := 4) (v := (40 : Int32)) dX1_addPut_4 (by decide) ?_
  refine bd_icmp_lt (pc := 6) (tgt := 11) hq dX1_addPut_6 (by decide) (fun _ hq => ?_) (fun _ hq => ?_)
  ·
    refine st_aload_n (pc := 11) dX1_addPut_11 rfl ?_
    refine bd_geti (pc := 12) hq dX1_addPut_12 fl_1_9_1 rfl (fun v2 hq => ?_)
    refine st_iconst (pc := 15) (v := (4 : Int32)) dX1_addPut_15 rfl ?_
    refine st_imul (pc := 16) dX1_addPut_16 ?_
    refine st_istore (pc := 17) (lv' := [some (.ref l0), some (.int l1), some (.int l2), some (.int l3), some (.int l4), some (.int (v2 * (4 : Int32)))]) dX1_addPut_17 rfl (by decide) rfl ?_
    refine st_aload_n (pc := 19) dX1_addPut_19 rfl ?_
    refine bd_getr (pc := 20) hq dX1_addPut_20 fl_1_18_1 rfl (fun v3 hq => ?_)
    refine st_iload (pc := 23) dX1_addPut_23 rfl ?_
    refine st_iload_n (pc := 25) dX1_addPut_25 rfl ?_
    refine bd_iast (pc := 26) hq dX1_addPut_26 (fun h4 hq => ?_)
    refine st_aload_n (pc := 27) dX1_addPut_27 rfl ?_
    refine bd_getr (pc := 28) hq dX1_addPut_28 fl_1_18_1 rfl (fun v5 hq => ?_)
    refine st_iload (pc := 31) dX1_addPut_31 rfl ?_
    refine st_iconst (pc := 33) (v := (1 : Int32)) dX1_addPut_33 rfl ?_
    refine st_iadd (pc := 34) dX1_addPut_34 ?_
    refine st_iload_n (pc := 35) dX1_addPut_35 rfl ?_
    refine bd_iast (pc := 36) hq dX1_addPut_36 (fun h6 hq => ?_)
    refine st_aload_n (pc := 37) dX1_addPut_37 rfl ?_
    refine bd_getr (pc := 38) hq dX1_addPut_38 fl_1_18_1 rfl (fun v7 hq => ?_)
    refine st_iload (pc := 41) dX1_addPut_41 rfl ?_
    refine st_iconst (pc := 43) (v := (2 : Int32)) dX1_addPut_43 rfl ?_
    refine st_iadd (pc := 44) dX1_addPut_44 ?_
    refine st_iload_n (pc := 45) dX1_addPut_45 rfl ?_
    refine bd_iast (pc := 46) hq dX1_addPut_46 (fun h8 hq => ?_)
    refine st_aload_n (pc := 47) dX1_addPut_47 rfl ?_
    refine bd_getr (pc := 48) hq dX1_addPut_48 fl_1_18_1 rfl (fun v9 hq => ?_)
    refine st_iload (pc := 51) dX1_addPut_51 rfl ?_
    refine st_iconst (pc := 53) (v := (3 : Int32)) dX1_addPut_53 rfl ?_
    refine st_iadd (pc := 54) dX1_addPut_54 ?_
    refine st_iload (pc := 55) dX1_addPut_55 rfl ?_
    refine bd_iast (pc := 57) hq dX1_addPut_57 (fun h10 hq => ?_)
    refine st_aload_n (pc := 58) dX1_addPut_58 rfl ?_
    refine st_dup (pc := 59) dX1_addPut_59 rfl ?_
    refine bd_geti (pc := 60) hq dX1_addPut_60 fl_1_9_1 rfl (fun v11 hq => ?_)
    refine st_iconst (pc := 63) (v := (1 : Int32)) dX1_addPut_63 rfl ?_
    refine st_iadd (pc := 64) dX1_addPut_64 ?_
    refine bd_puti (pc := 65) hq dX1_addPut_65 fl_1_9_1 (Or.inl rfl) rfl (fun h12 hq => ?_)
    refine st_aload_n (pc := 68) dX1_addPut_68 rfl ?_
    refine bd_geti (pc := 69) hq dX1_addPut_69 fl_1_9_1 rfl (fun v13 hq => ?_)
    refine st_iconst (pc := 72) (v := (1 : Int32)) dX1_addPut_72 rfl ?_
    refine st_isub (pc := 73) dX1_addPut_73 ?_
    exact bd_iret (pc := 74) hq dX1_addPut_74 rfl
  ·
    refine st_iconst (pc := 9) (v := (-1 : Int32)) dX1_addPut_9 rfl ?_
    exact bd_iret (pc := 10) hq dX1_addPut_10 rfl
-- HoleWater$World.putIn(III)I
theorem dX10_putIn_0 : decode cX10_putIn 0 = .ok (.aload_n 0, 1) := by decide +kernel
theorem dX10_putIn_1 : decode cX10_putIn 1 = .ok (.getfield 40, 3) := by decide +kernel
theorem dX10_putIn_4 : decode cX10_putIn 4 = .ok (.getfield 96, 3) := by decide +kernel
theorem dX10_putIn_7 : decode cX10_putIn 7 = .ok (.iload_n 1, 1) := by decide +kernel
theorem dX10_putIn_8 : decode cX10_putIn 8 = .ok (.iconst 5, 1) := by decide +kernel
theorem dX10_putIn_9 : decode cX10_putIn 9 = .ok (.imul, 1) := by decide +kernel
theorem dX10_putIn_10 : decode cX10_putIn 10 = .ok (.iconst 1, 1) := by decide +kernel
theorem dX10_putIn_11 : decode cX10_putIn 11 = .ok (.iadd, 1) := by decide +kernel
theorem dX10_putIn_12 : decode cX10_putIn 12 = .ok (.iload_n 2, 1) := by decide +kernel
theorem dX10_putIn_13 : decode cX10_putIn 13 = .ok (.iadd, 1) := by decide +kernel
theorem dX10_putIn_14 : decode cX10_putIn 14 = .ok (.dup2, 1) := by decide +kernel
theorem dX10_putIn_15 : decode cX10_putIn 15 = .ok (.iaload, 1) := by decide +kernel
theorem dX10_putIn_16 : decode cX10_putIn 16 = .ok (.iload_n 3, 1) := by decide +kernel
theorem dX10_putIn_17 : decode cX10_putIn 17 = .ok (.iadd, 1) := by decide +kernel
theorem dX10_putIn_18 : decode cX10_putIn 18 = .ok (.iastore, 1) := by decide +kernel
theorem dX10_putIn_19 : decode cX10_putIn 19 = .ok (.aload_n 0, 1) := by decide +kernel
theorem dX10_putIn_20 : decode cX10_putIn 20 = .ok (.getfield 40, 3) := by decide +kernel
theorem dX10_putIn_23 : decode cX10_putIn 23 = .ok (.getfield 99, 3) := by decide +kernel
theorem dX10_putIn_26 : decode cX10_putIn 26 = .ok (.iload_n 2, 1) := by decide +kernel
theorem dX10_putIn_27 : decode cX10_putIn 27 = .ok (.bipush 7, 2) := by decide +kernel
theorem dX10_putIn_29 : decode cX10_putIn 29 = .ok (.imul, 1) := by decide +kernel
theorem dX10_putIn_30 : decode cX10_putIn 30 = .ok (.iconst 0, 1) := by decide +kernel
theorem dX10_putIn_31 : decode cX10_putIn 31 = .ok (.iadd, 1) := by decide +kernel
theorem dX10_putIn_32 : decode cX10_putIn 32 = .ok (.dup2, 1) := by decide +kernel
theorem dX10_putIn_33 : decode cX10_putIn 33 = .ok (.iaload, 1) := by decide +kernel
theorem dX10_putIn_34 : decode cX10_putIn 34 = .ok (.iload_n 3, 1) := by decide +kernel
theorem dX10_putIn_35 : decode cX10_putIn 35 = .ok (.iadd, 1) := by decide +kernel
theorem dX10_putIn_36 : decode cX10_putIn 36 = .ok (.iastore, 1) := by decide +kernel
theorem dX10_putIn_37 : decode cX10_putIn 37 = .ok (.aload_n 0, 1) := by decide +kernel
theorem dX10_putIn_38 : decode cX10_putIn 38 = .ok (.getfield 47, 3) := by decide +kernel
theorem dX10_putIn_41 : decode cX10_putIn 41 = .ok (.iload_n 1, 1) := by decide +kernel
theorem dX10_putIn_42 : decode cX10_putIn 42 = .ok (.iload_n 2, 1) := by decide +kernel
theorem dX10_putIn_43 : decode cX10_putIn 43 = .ok (.iload_n 3, 1) := by decide +kernel
theorem dX10_putIn_44 : decode cX10_putIn 44 = .ok (.aload_n 0, 1) := by decide +kernel
theorem dX10_putIn_45 : decode cX10_putIn 45 = .ok (.getfield 40, 3) := by decide +kernel
theorem dX10_putIn_48 : decode cX10_putIn 48 = .ok (.getfield 102, 3) := by decide +kernel
theorem dX10_putIn_51 : decode cX10_putIn 51 = .ok (.invokevirtual 105, 3) := by decide +kernel
theorem dX10_putIn_54 : decode cX10_putIn 54 = .ok (.ireturn, 1) := by decide +kernel
def D_X10_putIn (N : Nat) (h : mh_H) (l0 : Nat) (l1 : Int32) (l2 : Int32) (l3 : Int32) : Option (Int32 × mh_H) :=
  (gR h 10 l0 7).bind fun v1 =>
  (gR h 8 v1 5).bind fun v2 =>
  (aI h v2 (((l1 * (5 : Int32)) + (1 : Int32)) + l2)).bind fun v3 =>
  (uI h v2 (((l1 * (5 : Int32)) + (1 : Int32)) + l2) (v3 + l3)).bind fun h4 =>
  (gR h4 10 l0 7).bind fun v5 =>
  (gR h4 8 v5 4).bind fun v6 =>
  (aI h4 v6 ((l2 * (7 : Int32)) + (0 : Int32))).bind fun v7 =>
  (uI h4 v6 ((l2 * (7 : Int32)) + (0 : Int32)) (v7 + l3)).bind fun h8 =>
  (gR h8 10 l0 8).bind fun v9 =>
  (gR h8 10 l0 7).bind fun v10 =>
  (gI h8 8 v10 0).bind fun v11 =>
  kO h8 1 v9 <|
  (D_X1_addPut N h8 v9 l1 l2 l3 v11).bind fun q12 =>
  some (q12.1, q12.2)
set_option maxHeartbeats 4000000 in
set_option maxRecDepth 100000 in
theorem T_X10_putIn {P : mh_E → Prop} {N d : Nat} (hd : 2 ≤ d) {z : (Int32 × mh_H)} {h : mh_H} {l0 : Nat} {l1 : Int32} {l2 : Int32} {l3 : Int32} (hq : D_X10_putIn N h l0 l1 l2 l3 = some z) : mh_go P d mX10_putIn 0 [some (.ref l0), some (.int l1), some (.int l2), some (.int l3)] [] h (some (.int z.1)) z.2 := by
  unfold D_X10_putIn at hq
  refine st_aload_n (pc := 0) dX10_putIn_0 rfl ?_
  refine bd_getr (pc := 1) hq dX10_putIn_1 fl_10_40_10 rfl (fun v1 hq => ?_)
  refine bd_getr (pc := 4) hq dX10_putIn_4 fl_10_96_8 rfl (fun v2 hq => ?_)
  refine st_iload_n (pc := 7) dX10_putIn_7 rfl ?_
  refine st_iconst (pc := 8) (v := (5 : Int32)) dX10_putIn_8 rfl ?_
  refine st_imul (pc := 9) dX10_putIn_9 ?_
  refine st_iconst (pc := 10) (v := (1 : Int32)) dX10_putIn_10 rfl ?_
  refine st_iadd (pc := 11) dX10_putIn_11 ?_
  refine st_iload_n (pc := 12) dX10_putIn_12 rfl ?_
  refine st_iadd (pc := 13) dX10_putIn_13 ?_
  refine st_dup2 (pc := 14) dX10_putIn_14 rfl rfl ?_
  refine bd_iald (pc := 15) hq dX10_putIn_15 (fun v3 hq => ?_)
  refine st_iload_n (pc := 16) dX10_putIn_16 rfl ?_
  refine st_iadd (pc := 17) dX10_putIn_17 ?_
  refine bd_iast (pc := 18) hq dX10_putIn_18 (fun h4 hq => ?_)
  refine st_aload_n (pc := 19) dX10_putIn_19 rfl ?_
  refine bd_getr (pc := 20) hq dX10_putIn_20 fl_10_40_10 rfl (fun v5 hq => ?_)
  refine bd_getr (pc := 23) hq dX10_putIn_23 fl_10_99_8 rfl (fun v6 hq => ?_)
  refine st_iload_n (pc := 26) dX10_putIn_26 rfl ?_
  refine st_bipush (pc := 27) (v := (7 : Int32)) dX10_putIn_27 (by decide) ?_
  refine st_imul (pc := 29) dX10_putIn_29 ?_
  refine st_iconst (pc := 30) (v := (0 : Int32)) dX10_putIn_30 rfl ?_
  refine st_iadd (pc := 31) dX10_putIn_31 ?_
  refine st_dup2 (pc := 32) dX10_putIn_32 rfl rfl ?_
  refine bd_iald (pc := 33) hq dX10_putIn_33 (fun v7 hq => ?_)
  refine st_iload_n (pc := 34) dX10_putIn_34 rfl ?_
  refine st_iadd (pc := 35) dX10_putIn_35 ?_
  refine bd_iast (pc := 36) hq dX10_putIn_36 (fun h8 hq => ?_)
  refine st_aload_n (pc := 37) dX10_putIn_37 rfl ?_
  refine bd_getr (pc := 38) hq dX10_putIn_38 fl_10_47_10 rfl (fun v9 hq => ?_)
  refine st_iload_n (pc := 41) dX10_putIn_41 rfl ?_
  refine st_iload_n (pc := 42) dX10_putIn_42 rfl ?_
  refine st_iload_n (pc := 43) dX10_putIn_43 rfl ?_
  refine st_aload_n (pc := 44) dX10_putIn_44 rfl ?_
  refine bd_getr (pc := 45) hq dX10_putIn_45 fl_10_40_10 rfl (fun v10 hq => ?_)
  refine bd_geti (pc := 48) hq dX10_putIn_48 fl_10_102_8 rfl (fun v11 hq => ?_)
  obtain ⟨⟨hbq12, hkq12⟩, hq⟩ := mh_oi hq
  obtain ⟨q12, e12, hq⟩ := mh_ob hq
  refine st_invV (pc := 51) (ci := 1) (vs := [.int l1, .int l2, .int l3, .int v11]) (rest := []) (st2 := [.int q12.1]) dX10_putIn_51 okX1_addPut (by decide) hkq12 hbq12 wd_712 wd_713 wd_714 pdX1_addPut rfl rfl rfl rfl (Nat.le_trans (by decide) hd) (Nat.le_of_ble_eq_true rfl) (T_X1_addPut (Nat.le_refl _) e12) rfl ?_
  exact bd_iret (pc := 54) hq dX10_putIn_54 rfl
