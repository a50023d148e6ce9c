-- HoleWater$Water.sendOff(ILHoleWater$World;)V
theorem dX8_sendOff_99 : decode cX8_sendOff 99 = .ok (.iinc 6 1, 3) := by decide +kernel
theorem dX8_sendOff_102 : decode cX8_sendOff 102 = .ok (.goto (-78), 3) := by decide +kernel
theorem dX8_sendOff_97 : decode cX8_sendOff 97 = .ok (.istore 5, 2) := by decide +kernel
theorem dX8_sendOff_90 : decode cX8_sendOff 90 = .ok (.iload 6, 2) := by decide +kernel
theorem dX8_sendOff_92 : decode cX8_sendOff 92 = .ok (.goto 5, 3) := by decide +kernel
theorem dX8_sendOff_154 : decode cX8_sendOff 154 = .ok (.iinc 6 1, 3) := by decide +kernel
theorem dX8_sendOff_157 : decode cX8_sendOff 157 = .ok (.goto (-39), 3) := by decide +kernel
theorem dX8_sendOff_118 : decode cX8_sendOff 118 = .ok (.iload 6, 2) := by decide +kernel
theorem dX8_sendOff_120 : decode cX8_sendOff 120 = .ok (.iconst 5, 1) := by decide +kernel
theorem dX8_sendOff_121 : decode cX8_sendOff 121 = .ok (.if_icmp .ge 39, 3) := by decide +kernel
theorem dX8_sendOff_160 : decode cX8_sendOff 160 = .ok (.return_, 1) := by decide +kernel
theorem dX8_sendOff_124 : decode cX8_sendOff 124 = .ok (.iload 5, 2) := by decide +kernel
theorem dX8_sendOff_126 : decode cX8_sendOff 126 = .ok (.ifCond .lt 34, 3) := by decide +kernel
theorem dX8_sendOff_129 : decode cX8_sendOff 129 = .ok (.aload_n 0, 1) := by decide +kernel
theorem dX8_sendOff_130 : decode cX8_sendOff 130 = .ok (.getfield 29, 3) := by decide +kernel
theorem dX8_sendOff_133 : decode cX8_sendOff 133 = .ok (.iload_n 1, 1) := by decide +kernel
theorem dX8_sendOff_134 : decode cX8_sendOff 134 = .ok (.iconst 5, 1) := by decide +kernel
theorem dX8_sendOff_135 : decode cX8_sendOff 135 = .ok (.imul, 1) := by decide +kernel
theorem dX8_sendOff_136 : decode cX8_sendOff 136 = .ok (.iload 6, 2) := by decide +kernel
theorem dX8_sendOff_138 : decode cX8_sendOff 138 = .ok (.iadd, 1) := by decide +kernel
theorem dX8_sendOff_139 : decode cX8_sendOff 139 = .ok (.iaload, 1) := by decide +kernel
theorem dX8_sendOff_140 : decode cX8_sendOff 140 = .ok (.ifCond .le 14, 3) := by decide +kernel
theorem dX8_sendOff_143 : decode cX8_sendOff 143 = .ok (.aload_n 0, 1) := by decide +kernel
theorem dX8_sendOff_144 : decode cX8_sendOff 144 = .ok (.iload_n 1, 1) := by decide +kernel
theorem dX8_sendOff_145 : decode cX8_sendOff 145 = .ok (.iload 6, 2) := by decide +kernel
theorem dX8_sendOff_147 : decode cX8_sendOff 147 = .ok (.iload_n 3, 1) := by decide +kernel
theorem dX8_sendOff_148 : decode cX8_sendOff 148 = .ok (.iload 5, 2) := by decide +kernel
theorem dX8_sendOff_150 : decode cX8_sendOff 150 = .ok (.aload_n 2, 1) := by decide +kernel
theorem dX8_sendOff_151 : decode cX8_sendOff 151 = .ok (.invokevirtual 135, 3) := by decide +kernel
theorem dX8_sendOff_24 : decode cX8_sendOff 24 = .ok (.iload 6, 2) := by decide +kernel
theorem dX8_sendOff_26 : decode cX8_sendOff 26 = .ok (.aload_n 2, 1) := by decide +kernel
theorem dX8_sendOff_27 : decode cX8_sendOff 27 = .ok (.getfield 60, 3) := by decide +kernel
theorem dX8_sendOff_30 : decode cX8_sendOff 30 = .ok (.if_icmp .ge 75, 3) := by decide +kernel
theorem dX8_sendOff_105 : decode cX8_sendOff 105 = .ok (.aload_n 0, 1) := by decide +kernel
theorem dX8_sendOff_106 : decode cX8_sendOff 106 = .ok (.getfield 29, 3) := by decide +kernel
theorem dX8_sendOff_109 : decode cX8_sendOff 109 = .ok (.iload_n 1, 1) := by decide +kernel
theorem dX8_sendOff_110 : decode cX8_sendOff 110 = .ok (.iconst 5, 1) := by decide +kernel
theorem dX8_sendOff_111 : decode cX8_sendOff 111 = .ok (.imul, 1) := by decide +kernel
theorem dX8_sendOff_112 : decode cX8_sendOff 112 = .ok (.iload 4, 2) := by decide +kernel
theorem dX8_sendOff_114 : decode cX8_sendOff 114 = .ok (.iastore, 1) := by decide +kernel
theorem dX8_sendOff_115 : decode cX8_sendOff 115 = .ok (.iconst 1, 1) := by decide +kernel
theorem dX8_sendOff_116 : decode cX8_sendOff 116 = .ok (.istore 6, 2) := by decide +kernel
theorem dX8_sendOff_33 : decode cX8_sendOff 33 = .ok (.aload_n 2, 1) := by decide +kernel
theorem dX8_sendOff_34 : decode cX8_sendOff 34 = .ok (.getfield 65, 3) := by decide +kernel
theorem dX8_sendOff_37 : decode cX8_sendOff 37 = .ok (.iload 6, 2) := by decide +kernel
theorem dX8_sendOff_39 : decode cX8_sendOff 39 = .ok (.aaload, 1) := by decide +kernel
theorem dX8_sendOff_40 : decode cX8_sendOff 40 = .ok (.getfield 128, 3) := by decide +kernel
theorem dX8_sendOff_43 : decode cX8_sendOff 43 = .ok (.iload_n 1, 1) := by decide +kernel
theorem dX8_sendOff_44 : decode cX8_sendOff 44 = .ok (.if_icmp .ne 55, 3) := by decide +kernel
theorem dX8_sendOff_47 : decode cX8_sendOff 47 = .ok (.aload_n 0, 1) := by decide +kernel
theorem dX8_sendOff_48 : decode cX8_sendOff 48 = .ok (.iload 6, 2) := by decide +kernel
theorem dX8_sendOff_50 : decode cX8_sendOff 50 = .ok (.aload_n 2, 1) := by decide +kernel
theorem dX8_sendOff_51 : decode cX8_sendOff 51 = .ok (.getfield 65, 3) := by decide +kernel
theorem dX8_sendOff_54 : decode cX8_sendOff 54 = .ok (.iload 6, 2) := by decide +kernel
theorem dX8_sendOff_56 : decode cX8_sendOff 56 = .ok (.aaload, 1) := by decide +kernel
theorem dX8_sendOff_57 : decode cX8_sendOff 57 = .ok (.iconst 0, 1) := by decide +kernel
theorem dX8_sendOff_58 : decode cX8_sendOff 58 = .ok (.aload_n 0, 1) := by decide +kernel
theorem dX8_sendOff_59 : decode cX8_sendOff 59 = .ok (.getfield 47, 3) := by decide +kernel
theorem dX8_sendOff_62 : decode cX8_sendOff 62 = .ok (.iload 6, 2) := by decide +kernel
theorem dX8_sendOff_64 : decode cX8_sendOff 64 = .ok (.iaload, 1) := by decide +kernel
theorem dX8_sendOff_65 : decode cX8_sendOff 65 = .ok (.invokevirtual 131, 3) := by decide +kernel
theorem dX8_sendOff_68 : decode cX8_sendOff 68 = .ok (.iload 5, 2) := by decide +kernel
theorem dX8_sendOff_70 : decode cX8_sendOff 70 = .ok (.ifCond .lt 20, 3) := by decide +kernel
theorem dX8_sendOff_73 : decode cX8_sendOff 73 = .ok (.aload_n 0, 1) := by decide +kernel
theorem dX8_sendOff_74 : decode cX8_sendOff 74 = .ok (.getfield 47, 3) := by decide +kernel
theorem dX8_sendOff_77 : decode cX8_sendOff 77 = .ok (.iload 6, 2) := by decide +kernel
theorem dX8_sendOff_79 : decode cX8_sendOff 79 = .ok (.iaload, 1) := by decide +kernel
theorem dX8_sendOff_80 : decode cX8_sendOff 80 = .ok (.aload_n 0, 1) := by decide +kernel
theorem dX8_sendOff_81 : decode cX8_sendOff 81 = .ok (.getfield 47, 3) := by decide +kernel
theorem dX8_sendOff_84 : decode cX8_sendOff 84 = .ok (.iload 5, 2) := by decide +kernel
theorem dX8_sendOff_86 : decode cX8_sendOff 86 = .ok (.iaload, 1) := by decide +kernel
theorem dX8_sendOff_87 : decode cX8_sendOff 87 = .ok (.if_icmp .le 8, 3) := by decide +kernel
theorem dX8_sendOff_95 : decode cX8_sendOff 95 = .ok (.iload 5, 2) := by decide +kernel
theorem dX8_sendOff_0 : decode cX8_sendOff 0 = .ok (.aload_n 0, 1) := by decide +kernel
theorem dX8_sendOff_1 : decode cX8_sendOff 1 = .ok (.getfield 29, 3) := by decide +kernel
theorem dX8_sendOff_4 : decode cX8_sendOff 4 = .ok (.iload_n 1, 1) := by decide +kernel
theorem dX8_sendOff_5 : decode cX8_sendOff 5 = .ok (.iconst 5, 1) := by decide +kernel
theorem dX8_sendOff_6 : decode cX8_sendOff 6 = .ok (.imul, 1) := by decide +kernel
theorem dX8_sendOff_7 : decode cX8_sendOff 7 = .ok (.iaload, 1) := by decide +kernel
theorem dX8_sendOff_8 : decode cX8_sendOff 8 = .ok (.istore_n 3, 1) := by decide +kernel
theorem dX8_sendOff_9 : decode cX8_sendOff 9 = .ok (.aload_n 0, 1) := by decide +kernel
theorem dX8_sendOff_10 : decode cX8_sendOff 10 = .ok (.iload_n 1, 1) := by decide +kernel
theorem dX8_sendOff_11 : decode cX8_sendOff 11 = .ok (.iload_n 3, 1) := by decide +kernel
theorem dX8_sendOff_12 : decode cX8_sendOff 12 = .ok (.aload_n 2, 1) := by decide +kernel
theorem dX8_sendOff_13 : decode cX8_sendOff 13 = .ok (.invokevirtual 124, 3) := by decide +kernel
theorem dX8_sendOff_16 : decode cX8_sendOff 16 = .ok (.istore 4, 2) := by decide +kernel
theorem dX8_sendOff_18 : decode cX8_sendOff 18 = .ok (.iconst (-1), 1) := by decide +kernel
theorem dX8_sendOff_19 : decode cX8_sendOff 19 = .ok (.istore 5, 2) := by decide +kernel
theorem dX8_sendOff_21 : decode cX8_sendOff 21 = .ok (.iconst 0, 1) := by decide +kernel
theorem dX8_sendOff_22 : decode cX8_sendOff 22 = .ok (.istore 6, 2) := by decide +kernel
def D_X8_sendOff_99 (N : Nat) (k24 : mh_H → Nat → Int32 → Nat → Int32 → Int32 → Int32 → Int32 → Option mh_H) (h : mh_H) (l0 : Nat) (l1 : Int32) (l2 : Nat) (l3 : Int32) (l4 : Int32) (l5 : Int32) (l6 : Int32) : Option mh_H :=
  k24 h l0 l1 l2 l3 l4 l5 (l6 + Int32.ofInt (1))
set_option maxHeartbeats 4000000 in
set_option maxRecDepth 100000 in
theorem T_X8_sendOff_99 {P : mh_E → Prop} {N d : Nat} (hd : 5 ≤ d) {z : mh_H} {k24 : mh_H → Nat → Int32 → Nat → Int32 → Int32 → Int32 → Int32 → Option mh_H} (hk24 : ∀ (h : mh_H) (l0 : Nat) (l1 : Int32) (l2 : Nat) (l3 : Int32) (l4 : Int32) (l5 : Int32) (l6 : Int32), k24 h l0 l1 l2 l3 l4 l5 l6 = some z → mh_go P d mX8_sendOff 24 [some (.ref l0), some (.int l1), some (.ref l2), some (.int l3), some (.int l4), some (.int l5), some (.int l6)] [] h none z) {h : mh_H} {l0 : Nat} {l1 : Int32} {l2 : Nat} {l3 : Int32} {l4 : Int32} {l5 : Int32} {l6 : Int32} (hq : D_X8_sendOff_99 N k24 h l0 l1 l2 l3 l4 l5 l6 = some z) : mh_go P d mX8_sendOff 99 [some (.ref l0), some (.int l1), some (.ref l2), some (.int l3), some (.int l4), some (.int l5), some (.int l6)] [] h none z := by
  unfold D_X8_sendOff_99 at hq
  refine st_iinc (pc := 99) (lv' := [some (.ref l0), some (.int l1), some (.ref l2), some (.int l3), some (.int l4), some (.int l5), some (.int (l6 + Int32.ofInt (1)))]) dX8_sendOff_99 rfl rfl (by decide) rfl ?_
  refine st_goto (pc := 102) (tgt := 24) dX8_sendOff_102 (by decide) ?_
  exact hk24 _ _ _ _ _ _ _ _ hq
def D_X8_sendOff_97 (N : Nat) (k24 : mh_H → Nat → Int32 → Nat → Int32 → Int32 → Int32 → Int32 → Option mh_H) (h : mh_H) (l0 : Nat) (l1 : Int32) (l2 : Nat) (l3 : Int32) (l4 : Int32) (l6 : Int32) (s0 : Int32) : Option mh_H :=
  D_X8_sendOff_99 N k24 h l0 l1 l2 l3 l4 s0 l6
set_option maxHeartbeats 4000000 in
set_option maxRecDepth 100000 in
theorem T_X8_sendOff_97 {P : mh_E → Prop} {N d : Nat} (hd : 5 ≤ d) {z : mh_H} {k24 : mh_H → Nat → Int32 → Nat → Int32 → Int32 → Int32 → Int32 → Option mh_H} (hk24 : ∀ (h : mh_H) (l0 : Nat) (l1 : Int32) (l2 : Nat) (l3 : Int32) (l4 : Int32) (l5 : Int32) (l6 : Int32), k24 h l0 l1 l2 l3 l4 l5 l6 = some z → mh_go P d mX8_sendOff 24 [some (.ref l0), some (.int l1), some (.ref l2), some (.int l3), some (.int l4), some (.int l5), some (.int l6)] [] h none z) {h : mh_H} {l0 : Nat} {l1 : Int32} {l2 : Nat} {l3 : Int32} {l4 : Int32} {l6 : Int32} {s0 : Int32} (hq : D_X8_sendOff_97 N k24 h l0 l1 l2 l3 l4 l6 s0 = some z) : mh_go P d mX8_sendOff 97 [some (.ref l0), some (.int l1), some (.ref l2), some (.int l3), some (.int l4), none, some (.int l6)] [.int s0] h none z := by
  unfold D_X8_sendOff_97 at hq
  refine st_istore (pc := 97) (lv' := [some (.ref l0), some (.int l1), some (.ref l2), some (.int l3), some (.int l4), some (.int s0), some (.int l6)]) dX8_sendOff_97 rfl (by decide) rfl ?_
  exact T_X8_sendOff_99 hd hk24 hq
def D_X8_sendOff_90 (N : Nat) (k24 : mh_H → Nat → Int32 → Nat → Int32 → Int32 → Int32 → Int32 → Option mh_H) (h : mh_H) (l0 : Nat) (l1 : Int32) (l2 : Nat) (l3 : Int32) (l4 : Int32) (l6 : Int32) : Option mh_H :=
  D_X8_sendOff_97 N k24 h l0 l1 l2 l3 l4 l6 l6
set_option maxHeartbeats 4000000 in
set_option maxRecDepth 100000 in
theorem T_X8_sendOff_90 {P : mh_E → Prop} {N d : Nat} (hd : 5 ≤ d) {z : mh_H} {k24 : mh_H → Nat → Int32 → Nat → Int32 → Int32 → Int32 → Int32 → Option mh_H} (hk24 : ∀ (h : mh_H) (l0 : Nat) (l1 : Int32) (l2 : Nat) (l3 : Int32) (l4 : Int32) (l5 : Int32) (l6 : Int32), k24 h l0 l1 l2 l3 l4 l5 l6 = some z → mh_go P d mX8_sendOff 24 [some (.ref l0), some (.int l1), some (.ref l2), some (.int l3), some (.int l4), some (.int l5), some (.int l6)] [] h none z) {h : mh_H} {l0 : Nat} {l1 : Int32} {l2 : Nat} {l3 : Int32} {l4 : Int32} {l6 : Int32} (hq : D_X8_sendOff_90 N k24 h l0 l1 l2 l3 l4 l6 = some z) : mh_go P d mX8_sendOff 90 [some (.ref l0), some (.int l1), some (.ref l2), some (.int l3), some (.int l4), none, some (.int l6)] [] h none z := by
  unfold D_X8_sendOff_90 at hq
  refine st_iload (pc := 90) dX8_sendOff_90 rfl ?_
  refine st_goto (pc := 92) (tgt := 97) dX8_sendOff_92 (by decide) ?_
  exact T_X8_sendOff_97 hd hk24 hq
def D_X8_sendOff_154 (N : Nat) (k118 : mh_H → Nat → Int32 → Nat → Int32 → Int32 → Int32 → Option mh_H) (h : mh_H) (l0 : Nat) (l1 : Int32) (l2 : Nat) (l3 : Int32) (l5 : Int32) (l6 : Int32) : Option mh_H :=
  k118 h l0 l1 l2 l3 l5 (l6 + Int32.ofInt (1))
set_option maxHeartbeats 4000000 in
set_option maxRecDepth 100000 in
theorem T_X8_sendOff_154 {P : mh_E → Prop} {N d : Nat} (hd : 5 ≤ d) {z : mh_H} {k118 : mh_H → Nat → Int32 → Nat → Int32 → Int32 → Int32 → Option mh_H} (hk118 : ∀ (h : mh_H) (l0 : Nat) (l1 : Int32) (l2 : Nat) (l3 : Int32) (l5 : Int32) (l6 : Int32), k118 h l0 l1 l2 l3 l5 l6 = some z → mh_go P d mX8_sendOff 118 [some (.ref l0), some (.int l1), some (.ref l2), some (.int l3), none, some (.int l5), some (.int l6)] [] h none z) {h : mh_H} {l0 : Nat} {l1 : Int32} {l2 : Nat} {l3 : Int32} {l5 : Int32} {l6 : Int32} (hq : D_X8_sendOff_154 N k118 h l0 l1 l2 l3 l5 l6 = some z) : mh_go P d mX8_sendOff 154 [some (.ref l0), some (.int l1), some (.ref l2), some (.int l3), none, some (.int l5), some (.int l6)] [] h none z := by
  unfold D_X8_sendOff_154 at hq
  refine st_iinc (pc := 154) (lv' := [some (.ref l0), some (.int l1), some (.ref l2), some (.int l3), none, some (.int l5), some (.int (l6 + Int32.ofInt (1)))]) dX8_sendOff_154 rfl rfl (by decide) rfl ?_
  refine st_goto (pc := 157) (tgt := 118) dX8_sendOff_157 (by decide) ?_
  exact hk118 _ _ _ _ _ _ _ hq
def D_X8_sendOff_118 (N : Nat) : Nat → mh_H → Nat → Int32 → Nat → Int32 → Int32 → Int32 → Option mh_H
  | 0, _, _, _, _, _, _, _ => none
  | F + 1, h, l0, l1, l2, l3, l5, l6 =>
    if (5 : Int32) ≤ l6 then (some h)
    else (if l5 < 0 then (some h)
    else ((gR h 8 l0 5).bind fun v1 =>
    (aI h v1 ((l1 * (5 : Int32)) + l6)).bind fun v2 =>
    if v2 ≤ 0 then (D_X8_sendOff_154 N (D_X8_sendOff_118 N F) h l0 l1 l2 l3 l5 l6)
    else (kO h 8 l0 <|
    (D_X8_sendGrains N h l0 l1 l6 l3 l5 l2).bind fun q3 =>
    D_X8_sendOff_154 N (D_X8_sendOff_118 N F) q3 l0 l1 l2 l3 l5 l6)))
set_option maxHeartbeats 4000000 in
set_option maxRecDepth 100000 in
theorem T_X8_sendOff_118 {P : mh_E → Prop} {N d : Nat} (hd : 5 ≤ d) {z : mh_H} : ∀ (F : Nat) (h : mh_H) (l0 : Nat) (l1 : Int32) (l2 : Nat) (l3 : Int32) (l5 : Int32) (l6 : Int32), D_X8_sendOff_118 N F h l0 l1 l2 l3 l5 l6 = some z → mh_go P d mX8_sendOff 118 [some (.ref l0), some (.int l1), some (.ref l2), some (.int l3), none, some (.int l5), some (.int l6)] [] h none z := by
  intro F
  induction F with
  | zero => intro h l0 l1 l2 l3 l5 l6 hq; rw [D_X8_sendOff_118] at hq; cases hq
  | succ F ih =>
    intro h l0 l1 l2 l3 l5 l6 hq
    rw [D_X8_sendOff_118] at hq
    refine st_iload (pc := 118) dX8_sendOff_118 rfl ?_
    refine st_iconst (pc := 120) (v := (5 : Int32)) dX8_sendOff_120 rfl ?_
    refine bd_icmp_ge (pc := 121) (tgt := 160) hq dX8_sendOff_121 (by decide) (fun _ hq => ?_) (fun _ hq => ?_)
    ·
      exact bd_vret (pc := 160) hq dX8_sendOff_160 rfl
    ·
      refine st_iload (pc := 124) dX8_sendOff_124 rfl ?_
      refine bd_if_lt (pc := 126) (tgt := 160) hq dX8_sendOff_126 (by decide) (fun _ hq => ?_) (fun _ hq => ?_)
      ·
        exact bd_vret (pc := 160) hq dX8_sendOff_160 rfl
      ·
        refine st_aload_n (pc := 129) dX8_sendOff_129 rfl ?_
        refine bd_getr (pc := 130) hq dX8_sendOff_130 fl_8_29_8 rfl (fun v1 hq => ?_)
        refine st_iload_n (pc := 133) dX8_sendOff_133 rfl ?_
        refine st_iconst (pc := 134) (v := (5 : Int32)) dX8_sendOff_134 rfl ?_
        refine st_imul (pc := 135) dX8_sendOff_135 ?_
        refine st_iload (pc := 136) dX8_sendOff_136 rfl ?_
        refine st_iadd (pc := 138) dX8_sendOff_138 ?_
        refine bd_iald (pc := 139) hq dX8_sendOff_139 (fun v2 hq => ?_)
        refine bd_if_le (pc := 140) (tgt := 154) hq dX8_sendOff_140 (by decide) (fun _ hq => ?_) (fun _ hq => ?_)
        ·
          exact T_X8_sendOff_154 hd ih hq
        ·
          refine st_aload_n (pc := 143) dX8_sendOff_143 rfl ?_
          refine st_iload_n (pc := 144) dX8_sendOff_144 rfl ?_
          refine st_iload (pc := 145) dX8_sendOff_145 rfl ?_
          refine st_iload_n (pc := 147) dX8_sendOff_147 rfl ?_
          refine st_iload (pc := 148) dX8_sendOff_148 rfl ?_
          refine st_aload_n (pc := 150) dX8_sendOff_150 rfl ?_
          obtain ⟨⟨hbq3, hkq3⟩, hq⟩ := mh_oi hq
          obtain ⟨q3, e3, hq⟩ := mh_ob hq
          refine st_invV (pc := 151) (ci := 8) (vs := [.int l1, .int l6, .int l3, .int l5, .ref l2]) (rest := []) (st2 := []) dX8_sendOff_151 okX8_sendGrains (by decide) hkq3 hbq3 wd_609 wd_611 wp_12 pdX8_sendGrains rfl rfl rfl rfl (Nat.le_trans (by decide) hd) (Nat.le_of_ble_eq_true rfl) (T_X8_sendGrains (Nat.le_refl _) e3) rfl ?_
          exact T_X8_sendOff_154 hd ih hq
def D_X8_sendOff_24 (N : Nat) : Nat → mh_H → Nat → Int32 → Nat → Int32 → Int32 → Int32 → Int32 → Option mh_H
  | 0, _, _, _, _, _, _, _, _ => none
  | F + 1, h, l0, l1, l2, l3, l4, l5, l6 =>
    (gI h 10 l2 1).bind fun v1 =>
    if v1 ≤ l6 then ((gR h 8 l0 5).bind fun v2 =>
    (uI h v2 (l1 * (5 : Int32)) l4).bind fun h3 =>
    D_X8_sendOff_118 N N h3 l0 l1 l2 l3 l5 (1 : Int32))
    else ((gR h 10 l2 6).bind fun v2 =>
    (aR h v2 l6).bind fun v3 =>
    (gW h v3 0).bind fun v4 =>
    if v4 = l1 then ((gR h 10 l2 6).bind fun v5 =>
    (aR h v5 l6).bind fun v6 =>
    (gR h 8 l0 11).bind fun v7 =>
    (aI h v7 l6).bind fun v8 =>
    kO h 8 l0 <|
    (D_X8_enter N h l0 l6 v6 (0 : Int32) v8).bind fun q9 =>
    if l5 < 0 then (D_X8_sendOff_90 N (D_X8_sendOff_24 N F) q9 l0 l1 l2 l3 l4 l6)
    else ((gR q9 8 l0 11).bind fun v10 =>
    (aI q9 v10 l6).bind fun v11 =>
    (gR q9 8 l0 11).bind fun v12 =>
    (aI q9 v12 l5).bind fun v13 =>
    if v11 ≤ v13 then (D_X8_sendOff_97 N (D_X8_sendOff_24 N F) q9 l0 l1 l2 l3 l4 l6 l5)
    else (D_X8_sendOff_90 N (D_X8_sendOff_24 N F) q9 l0 l1 l2 l3 l4 l6)))
    else (D_X8_sendOff_99 N (D_X8_sendOff_24 N F) h l0 l1 l2 l3 l4 l5 l6))
set_option maxHeartbeats 4000000 in
set_option maxRecDepth 100000 in
theorem T_X8_sendOff_24 {P : mh_E → Prop} {N d : Nat} (hd : 5 ≤ d) {z : mh_H} : ∀ (F : Nat) (h : mh_H) (l0 : Nat) (l1 : Int32) (l2 : Nat) (l3 : Int32) (l4 : Int32) (l5 : Int32) (l6 : Int32), D_X8_sendOff_24 N F h l0 l1 l2 l3 l4 l5 l6 = some z → mh_go P d mX8_sendOff 24 [some (.ref l0), some (.int l1), some (.ref l2), some (.int l3), some (.int l4), some (.int l5), some (.int l6)] [] h none z := by
  intro F
  induction F with
  | zero => intro h l0 l1 l2 l3 l4 l5 l6 hq; rw [D_X8_sendOff_24] at hq; cases hq
  | succ F ih =>
    intro h l0 l1 l2 l3 l4 l5 l6 hq
    rw [D_X8_sendOff_24] at hq
    refine st_iload (pc := 24) dX8_sendOff_24 rfl ?_
    refine st_aload_n (pc := 26) dX8_sendOff_26 rfl ?_
    refine bd_geti (pc := 27) hq dX8_sendOff_27 fl_8_60_10 rfl (fun v1 hq => ?_)
    refine bd_icmp_ge (pc := 30) (tgt := 105) hq dX8_sendOff_30 (by decide) (fun _ hq => ?_) (fun _ hq => ?_)
    ·
      refine st_aload_n (pc := 105) dX8_sendOff_105 rfl ?_
      refine bd_getr (pc := 106) hq dX8_sendOff_106 fl_8_29_8 rfl (fun v2 hq => ?_)
      refine st_iload_n (pc := 109) dX8_sendOff_109 rfl ?_
      refine st_iconst (pc := 110) (v := (5 : Int32)) dX8_sendOff_110 rfl ?_
      refine st_imul (pc := 111) dX8_sendOff_111 ?_
      refine st_iload (pc := 112) dX8_sendOff_112 rfl ?_
      refine bd_iast (pc := 114) hq dX8_sendOff_114 (fun h3 hq => ?_)
      refine st_iconst (pc := 115) (v := (1 : Int32)) dX8_sendOff_115 rfl ?_
      refine st_istore (pc := 116) (lv' := [some (.ref l0), some (.int l1), some (.ref l2), some (.int l3), some (.int l4), some (.int l5), some (.int (1 : Int32))]) dX8_sendOff_116 rfl (by decide) rfl ?_
      refine st_lesS (lv' := [some (.ref l0), some (.int l1), some (.ref l2), some (.int l3), none, some (.int l5), some (.int (1 : Int32))]) ⟨Or.inr rfl, Or.inr rfl, Or.inr rfl, Or.inr rfl, Or.inl rfl, Or.inr rfl, Or.inr rfl, trivial⟩ ?_
      exact T_X8_sendOff_118 hd N _ _ _ _ _ _ _ hq
    ·
      refine st_aload_n (pc := 33) dX8_sendOff_33 rfl ?_
      refine bd_getr (pc := 34) hq dX8_sendOff_34 fl_8_65_10 rfl (fun v2 hq => ?_)
      refine st_iload (pc := 37) dX8_sendOff_37 rfl ?_
      refine bd_aald (pc := 39) hq dX8_sendOff_39 (fun v3 hq => ?_)
      refine bd_getw (pc := 40) hq dX8_sendOff_40 flw_8_128 (by decide) (fun v4 hq => ?_)
      refine st_iload_n (pc := 43) dX8_sendOff_43 rfl ?_
      refine bd_icmp_ne (pc := 44) (tgt := 99) hq dX8_sendOff_44 (by decide) (fun _ hq => ?_) (fun _ hq => ?_)
      ·
        refine st_aload_n (pc := 47) dX8_sendOff_47 rfl ?_
        refine st_iload (pc := 48) dX8_sendOff_48 rfl ?_
        refine st_aload_n (pc := 50) dX8_sendOff_50 rfl ?_
        refine bd_getr (pc := 51) hq dX8_sendOff_51 fl_8_65_10 rfl (fun v5 hq => ?_)
        refine st_iload (pc := 54) dX8_sendOff_54 rfl ?_
        refine bd_aald (pc := 56) hq dX8_sendOff_56 (fun v6 hq => ?_)
        refine st_iconst (pc := 57) (v := (0 : Int32)) dX8_sendOff_57 rfl ?_
        refine st_aload_n (pc := 58) dX8_sendOff_58 rfl ?_
        refine bd_getr (pc := 59) hq dX8_sendOff_59 fl_8_47_8 rfl (fun v7 hq => ?_)
        refine st_iload (pc := 62) dX8_sendOff_62 rfl ?_
        refine bd_iald (pc := 64) hq dX8_sendOff_64 (fun v8 hq => ?_)
        obtain ⟨⟨hbq9, hkq9⟩, hq⟩ := mh_oi hq
        obtain ⟨q9, e9, hq⟩ := mh_ob hq
        refine st_invV (pc := 65) (ci := 8) (vs := [.int l6, .ref v6, .int (0 : Int32), .int v8]) (rest := []) (st2 := []) dX8_sendOff_65 okX8_enter (by decide) hkq9 hbq9 wd_591 wd_593 wp_11 pdX8_enter rfl rfl rfl rfl (Nat.le_trans (by decide) hd) (Nat.le_of_ble_eq_true rfl) (T_X8_enter (Nat.le_refl _) e9) rfl ?_
        refine st_iload (pc := 68) dX8_sendOff_68 rfl ?_
        refine bd_if_lt (pc := 70) (tgt := 90) hq dX8_sendOff_70 (by decide) (fun _ hq => ?_) (fun _ hq => ?_)
        ·
          refine st_lesS (lv' := [some (.ref l0), some (.int l1), some (.ref l2), some (.int l3), some (.int l4), none, some (.int l6)]) ⟨Or.inr rfl, Or.inr rfl, Or.inr rfl, Or.inr rfl, Or.inr rfl, Or.inl rfl, Or.inr rfl, trivial⟩ ?_
          exact T_X8_sendOff_90 hd ih hq
        ·
          refine st_aload_n (pc := 73) dX8_sendOff_73 rfl ?_
          refine bd_getr (pc := 74) hq dX8_sendOff_74 fl_8_47_8 rfl (fun v10 hq => ?_)
          refine st_iload (pc := 77) dX8_sendOff_77 rfl ?_
          refine bd_iald (pc := 79) hq dX8_sendOff_79 (fun v11 hq => ?_)
          refine st_aload_n (pc := 80) dX8_sendOff_80 rfl ?_
          refine bd_getr (pc := 81) hq dX8_sendOff_81 fl_8_47_8 rfl (fun v12 hq => ?_)
          refine st_iload (pc := 84) dX8_sendOff_84 rfl ?_
          refine bd_iald (pc := 86) hq dX8_sendOff_86 (fun v13 hq => ?_)
          refine bd_icmp_le (pc := 87) (tgt := 95) hq dX8_sendOff_87 (by decide) (fun _ hq => ?_) (fun _ hq => ?_)
          ·
            refine st_iload (pc := 95) dX8_sendOff_95 rfl ?_
            refine st_lesS (lv' := [some (.ref l0), some (.int l1), some (.ref l2), some (.int l3), some (.int l4), none, some (.int l6)]) ⟨Or.inr rfl, Or.inr rfl, Or.inr rfl, Or.inr rfl, Or.inr rfl, Or.inl rfl, Or.inr rfl, trivial⟩ ?_
            exact T_X8_sendOff_97 hd ih hq
          ·
            refine st_lesS (lv' := [some (.ref l0), some (.int l1), some (.ref l2), some (.int l3), some (.int l4), none, some (.int l6)]) ⟨Or.inr rfl, Or.inr rfl, Or.inr rfl, Or.inr rfl, Or.inr rfl, Or.inl rfl, Or.inr rfl, trivial⟩ ?_
            exact T_X8_sendOff_90 hd ih hq
      ·
        exact T_X8_sendOff_99 hd ih hq
def D_X8_sendOff (N : Nat) (h : mh_H) (l0 : Nat) (l1 : Int32) (l2 : Nat) : Option mh_H :=
  (gR h 8 l0 5).bind fun v1 =>
  (aI h v1 (l1 * (5 : Int32))).bind fun v2 =>
  kO h 8 l0 <|
  (D_X8_shareOut N h l0 l1 v2 l2).bind fun q3 =>
  D_X8_sendOff_24 N N q3.2 l0 l1 l2 v2 q3.1 (-1 : Int32) (0 : Int32)
set_option maxHeartbeats 4000000 in
set_option maxRecDepth 100000 in
theorem T_X8_sendOff {P : mh_E → Prop} {N d : Nat} (hd : 5 ≤ d) {z : mh_H} {h : mh_H} {l0 : Nat} {l1 : Int32} {l2 : Nat} (hq : D_X8_sendOff N h l0 l1 l2 = some z) : mh_go P d mX8_sendOff 0 [some (.ref l0), some (.int l1), some (.ref l2), none, none, none, none] [] h none z := by
  unfold D_X8_sendOff at hq
  refine st_aload_n (pc := 0) dX8_sendOff_0 rfl ?_
  refine bd_getr (pc := 1) hq dX8_sendOff_1 fl_8_29_8 rfl (fun v1 hq => ?_)
  refine st_iload_n (pc := 4) dX8_sendOff_4 rfl ?_
  refine st_iconst (pc := 5) (v := (5 : Int32)) dX8_sendOff_5 rfl ?_
  refine st_imul (pc := 6) dX8_sendOff_6 ?_
  refine bd_iald (pc := 7) hq dX8_sendOff_7 (fun v2 hq => ?_)
  refine st_istore_n (pc := 8) (lv' := [some (.ref l0), some (.int l1), some (.ref l2), some (.int v2), none, none, none]) dX8_sendOff_8 rfl (by decide) rfl ?_
  refine st_aload_n (pc := 9) dX8_sendOff_9 rfl ?_
  refine st_iload_n (pc := 10) dX8_sendOff_10 rfl ?_
  refine st_iload_n (pc := 11) dX8_sendOff_11 rfl ?_
  refine st_aload_n (pc := 12) dX8_sendOff_12 rfl ?_
  obtain ⟨⟨hbq3, hkq3⟩, hq⟩ := mh_oi hq
  obtain ⟨q3, e3, hq⟩ := mh_ob hq
  refine st_invV (pc := 13) (ci := 8) (vs := [.int l1, .int v2, .ref l2]) (rest := []) (st2 := [.int q3.1]) dX8_sendOff_13 okX8_shareOut (by decide) hkq3 hbq3 wd_584 wd_586 wp_10 pdX8_shareOut rfl rfl rfl rfl (Nat.le_trans (by decide) hd) (Nat.le_of_ble_eq_true rfl) (T_X8_shareOut (Nat.le_refl _) e3) rfl ?_
  refine st_istore (pc := 16) (lv' := [some (.ref l0), some (.int l1), some (.ref l2), some (.int v2), some (.int q3.1), none, none]) dX8_sendOff_16 rfl (by decide) rfl ?_
  refine st_iconst (pc := 18) (v := (-1 : Int32)) dX8_sendOff_18 rfl ?_
  refine st_istore (pc := 19) (lv' := [some (.ref l0), some (.int l1), some (.ref l2), some (.int v2), some (.int q3.1), some (.int (-1 : Int32)), none]) dX8_sendOff_19 rfl (by decide) rfl ?_
  refine st_iconst (pc := 21) (v := (0 : Int32)) dX8_sendOff_21 rfl ?_
  refine st_istore (pc := 22) (lv' := [some (.ref l0), some (.int l1), some (.ref l2), some (.int v2), some (.int q3.1), some (.int (-1 : Int32)), some (.int (0 : Int32))]) dX8_sendOff_22 rfl (by decide) rfl ?_
  exact T_X8_sendOff_24 hd N _ _ _ _ _ _ _ _ hq
-- HoleWater.held(III)I
theorem dX11_held_0 : decode cX11_held 0 = .ok (.iload_n 1, 1) := by decide +kernel
theorem dX11_held_1 : decode cX11_held 1 = .ok (.iload_n 2, 1) := by decide +kernel
theorem dX11_held_2 : decode cX11_held 2 = .ok (.iload_n 0, 1) := by decide +kernel
theorem dX11_held_3 : decode cX11_held 3 = .ok (.invokestatic 377, 3) := by decide +kernel
theorem dX11_held_6 : decode cX11_held 6 = .ok (.invokestatic 382, 3) := by decide +kernel
theorem dX11_held_9 : decode cX11_held 9 = .ok (.ireturn, 1) := by decide +kernel
def D_X11_held (N : Nat) (h : mh_H) (l0 : Int32) (l1 : Int32) (l2 : Int32) : Option (Int32 × mh_H) :=
  some (mh_max l1 (mh_min l2 l0), h)
set_option maxHeartbeats 4000000 in
set_option maxRecDepth 100000 in
theorem T_X11_held {P : mh_E → Prop} {N d : Nat} (hd : 1 ≤ d) {z : (Int32 × mh_H)} {h : mh_H} {l0 : Int32} {l1 : Int32} {l2 : Int32} (hq : D_X11_held N h l0 l1 l2 = some z) : mh_go P d mX11_held 0 [some (.int l0), some (.int l1), some (.int l2)] [] h (some (.int z.1)) z.2 := by
  unfold D_X11_held at hq
  refine st_iload_n (pc := 0) dX11_held_0 rfl ?_
  refine st_iload_n (pc := 1) dX11_held_1 rfl ?_
  refine st_iload_n (pc := 2) dX11_held_2 rfl ?_
  refine st_mmin (pc := 3) dX11_held_3 wd_573 (Nat.le_trans (by decide) hd) (Nat.le_of_ble_eq_true rfl) ?_
  refine st_mmax (pc := 6) dX11_held_6 wd_574 (Nat.le_trans (by decide) hd) (Nat.le_of_ble_eq_true rfl) ?_
  exact bd_iret (pc := 9) hq dX11_held_9 rfl
-- HoleWater$Reader.pop()I
theorem dX5_pop_0 : decode cX5_pop 0 = .ok (.aload_n 0, 1) := by decide +kernel
theorem dX5_pop_1 : decode cX5_pop 1 = .ok (.getfield 27, 3) := by decide +kernel
theorem dX5_pop_4 : decode cX5_pop 4 = .ok (.ifCond .le 15, 3) := by decide +kernel
theorem dX5_pop_19 : decode cX5_pop 19 = .ok (.iconst 0, 1) := by decide +kernel
theorem dX5_pop_20 : decode cX5_pop 20 = .ok (.ireturn, 1) := by decide +kernel
theorem dX5_pop_7 : decode cX5_pop 7 = .ok (.aload_n 0, 1) := by decide +kernel
theorem dX5_pop_8 : decode cX5_pop 8 = .ok (.getfield 27, 3) := by decide +kernel
theorem dX5_pop_11 : decode cX5_pop 11 = .ok (.aload_n 0, 1) := by decide +kernel
theorem dX5_pop_12 : decode cX5_pop 12 = .ok (.getfield 24, 3) := by decide +kernel
theorem dX5_pop_15 : decode cX5_pop 15 = .ok (.arraylength, 1) := by decide +kernel
theorem dX5_pop_16 : decode cX5_pop 16 = .ok (.if_icmp .le 5, 3) := by decide +kernel
theorem dX5_pop_21 : decode cX5_pop 21 = .ok (.aload_n 0, 1) := by decide +kernel
theorem dX5_pop_22 : decode cX5_pop 22 = .ok (.dup, 1) := by decide +kernel
theorem dX5_pop_23 : decode cX5_pop 23 = .ok (.getfield 27, 3) := by decide +kernel
theorem dX5_pop_26 : decode cX5_pop 26 = .ok (.iconst 1, 1) := by decide +kernel
theorem dX5_pop_27 : decode cX5_pop 27 = .ok (.isub, 1) := by decide +kernel
theorem dX5_pop_28 : decode cX5_pop 28 = .ok (.putfield 27, 3) := by decide +kernel
theorem dX5_pop_31 : decode cX5_pop 31 = .ok (.aload_n 0, 1) := by decide +kernel
theorem dX5_pop_32 : decode cX5_pop 32 = .ok (.getfield 24, 3) := by decide +kernel
theorem dX5_pop_35 : decode cX5_pop 35 = .ok (.aload_n 0, 1) := by decide +kernel
theorem dX5_pop_36 : decode cX5_pop 36 = .ok (.getfield 27, 3) := by decide +kernel
theorem dX5_pop_39 : decode cX5_pop 39 = .ok (.iaload, 1) := by decide +kernel
theorem dX5_pop_40 : decode cX5_pop 40 = .ok (.ireturn, 1) := by decide +kernel
def D_X5_pop (N : Nat) (h : mh_H) (l0 : Nat) : Option (Int32 × mh_H) :=
  (gI h 5 l0 3).bind fun v1 =>
  if v1 ≤ 0 then (some ((0 : Int32), h))
  else ((gI h 5 l0 3).bind fun v2 =>
  (gR h 5 l0 2).bind fun v3 =>
  (aL h v3).bind fun v4 =>
  if v2 ≤ v4 then ((gI h 5 l0 3).bind fun v5 =>
  (pI h 5 l0 3 (v5 - (1 : Int32))).bind fun h6 =>
  (gR h6 5 l0 2).bind fun v7 =>
  (gI h6 5 l0 3).bind fun v8 =>
  (aI h6 v7 v8).bind fun v9 =>
  some (v9, h6))
  else (some ((0 : Int32), h)))
set_option maxHeartbeats 4000000 in
set_option maxRecDepth 100000 in
theorem T_X5_pop {P : mh_E → Prop} {N d : Nat} (hd : 1 ≤ d) {z : (Int32 × mh_H)} {h : mh_H} {l0 : Nat} (hq : D_X5_pop N h l0 = some z) : mh_go P d mX5_pop 0 [some (.ref l0)] [] h (some (.int z.1)) z.2 := by
  unfold D_X5_pop at hq
  refine st_aload_n (pc := 0) dX5_pop_0 rfl ?_
  refine bd_geti (pc := 1) hq dX5_pop_1 fl_5_27_5 rfl (fun v1 hq => ?_)
  refine bd_if_le (pc := 4) (tgt := 19) hq dX5_pop_4 (by decide) (fun _ hq => ?_) (fun _ hq => ?_)
  ·
    refine st_iconst (pc := 19) (v := (0 : Int32)) dX5_pop_19 rfl ?_
    exact bd_iret (pc := 20) hq dX5_pop_20 rfl
  ·
    refine st_aload_n (pc := 7) dX5_pop_7 rfl ?_
    refine bd_geti (pc := 8) hq dX5_pop_8 fl_5_27_5 rfl (fun v2 hq => ?_)
    refine st_aload_n (pc := 11) dX5_pop_11 rfl ?_
    refine bd_getr (pc := 12) hq dX5_pop_12 fl_5_24_5 rfl (fun v3 hq => ?_)
    refine bd_alen (pc := 15) hq dX5_pop_15 (fun v4 hq => ?_)
    refine bd_icmp_le (pc := 16) (tgt := 21) hq dX5_pop_16 (by decide) (fun _ hq => ?_) (fun _ hq => ?_)
    ·
      refine st_aload_n (pc := 21) dX5_pop_21 rfl ?_
      refine st_dup (pc := 22) dX5_pop_22 rfl ?_
      refine bd_geti (pc := 23) hq dX5_pop_23 fl_5_27_5 rfl (fun v5 hq => ?_)
      refine st_iconst (pc := 26) (v := (1 : Int32)) dX5_pop_26 rfl ?_
      refine st_isub (pc := 27) dX5_pop_27 ?_
      refine bd_puti (pc := 28) hq dX5_pop_28 fl_5_27_5 (Or.inl rfl) rfl (fun h6 hq => ?_)
      refine st_aload_n (pc := 31) dX5_pop_31 rfl ?_
      refine bd_getr (pc := 32) hq dX5_pop_32 fl_5_24_5 rfl (fun v7 hq => ?_)
      refine st_aload_n (pc := 35) dX5_pop_35 rfl ?_
      refine bd_geti (pc := 36) hq dX5_pop_36 fl_5_27_5 rfl (fun v8 hq => ?_)
      refine bd_iald (pc := 39) hq dX5_pop_39 (fun v9 hq => ?_)
      exact bd_iret (pc := 40) hq dX5_pop_40 rfl
    ·
      refine st_iconst (pc := 19) (v := (0 : Int32)) dX5_pop_19 rfl ?_
      exact bd_iret (pc := 20) hq dX5_pop_20 rfl
-- HoleWater$Reader.push(I)V
theorem dX5_push_0 : decode cX5_push 0 = .ok (.aload_n 0, 1) := by decide +kernel
theorem dX5_push_1 : decode cX5_push 1 = .ok (.getfield 27, 3) := by decide +kernel
theorem dX5_push_4 : decode cX5_push 4 = .ok (.ifCond .lt 35, 3) := by decide +kernel
theorem dX5_push_39 : decode cX5_push 39 = .ok (.return_, 1) := by decide +kernel
theorem dX5_push_7 : decode cX5_push 7 = .ok (.aload_n 0, 1) := by decide +kernel
theorem dX5_push_8 : decode cX5_push 8 = .ok (.getfield 27, 3) := by decide +kernel
theorem dX5_push_11 : decode cX5_push 11 = .ok (.aload_n 0, 1) := by decide +kernel
theorem dX5_push_12 : decode cX5_push 12 = .ok (.getfield 24, 3) := by decide +kernel
theorem dX5_push_15 : decode cX5_push 15 = .ok (.arraylength, 1) := by decide +kernel
theorem dX5_push_16 : decode cX5_push 16 = .ok (.if_icmp .ge 23, 3) := by decide +kernel
theorem dX5_push_19 : decode cX5_push 19 = .ok (.aload_n 0, 1) := by decide +kernel
theorem dX5_push_20 : decode cX5_push 20 = .ok (.getfield 24, 3) := by decide +kernel
theorem dX5_push_23 : decode cX5_push 23 = .ok (.aload_n 0, 1) := by decide +kernel
theorem dX5_push_24 : decode cX5_push 24 = .ok (.getfield 27, 3) := by decide +kernel
theorem dX5_push_27 : decode cX5_push 27 = .ok (.iload_n 1, 1) := by decide +kernel
theorem dX5_push_28 : decode cX5_push 28 = .ok (.iastore, 1) := by decide +kernel
theorem dX5_push_29 : decode cX5_push 29 = .ok (.aload_n 0, 1) := by decide +kernel
theorem dX5_push_30 : decode cX5_push 30 = .ok (.dup, 1) := by decide +kernel
theorem dX5_push_31 : decode cX5_push 31 = .ok (.getfield 27, 3) := by decide +kernel
theorem dX5_push_34 : decode cX5_push 34 = .ok (.iconst 1, 1) := by decide +kernel
theorem dX5_push_35 : decode cX5_push 35 = .ok (.iadd, 1) := by decide +kernel
theorem dX5_push_36 : decode cX5_push 36 = .ok (.putfield 27, 3) := by decide +kernel
def D_X5_push (N : Nat) (h : mh_H) (l0 : Nat) (l1 : Int32) : Option mh_H :=
  (gI h 5 l0 3).bind fun v1 =>
  if v1 < 0 then (some h)
  else ((gI h 5 l0 3).bind fun v2 =>
  (gR h 5 l0 2).bind fun v3 =>
  (aL h v3).bind fun v4 =>
  if v4 ≤ v2 then (some h)
  else ((gR h 5 l0 2).bind fun v5 =>
  (gI h 5 l0 3).bind fun v6 =>
  (uI h v5 v6 l1).bind fun h7 =>
  (gI h7 5 l0 3).bind fun v8 =>
  (pI h7 5 l0 3 (v8 + (1 : Int32))).bind fun h9 =>
  some h9))
set_option maxHeartbeats 4000000 in
set_option maxRecDepth 100000 in
theorem T_X5_push {P : mh_E → Prop} {N d : Nat} (hd : 1 ≤ d) {z : mh_H} {h : mh_H} {l0 : Nat} {l1 : Int32} (hq : D_X5_push N h l0 l1 = some z) : mh_go P d mX5_push 0 [some (.ref l0), some (.int l1)] [] h none z := by
  unfold D_X5_push at hq
  refine st_aload_n (pc := 0) dX5_push_0 rfl ?_
  refine bd_geti (pc := 1) hq dX5_push_1 fl_5_27_5 rfl (fun v1 hq => ?_)
  refine bd_if_lt (pc := 4) (tgt := 39) hq dX5_push_4 (by decide) (fun _ hq => ?_) (fun _ hq => ?_)
  ·
    exact bd_vret (pc := 39) hq dX5_push_39 rfl
  ·
    refine st_aload_n (pc := 7) dX5_push_7 rfl ?_
    refine bd_geti (pc := 8) hq dX5_push_8 fl_5_27_5 rfl (fun v2 hq => ?_)
    refine st_aload_n (pc := 11) dX5_push_11 rfl ?_
    refine bd_getr (pc := 12) hq dX5_push_12 fl_5_24_5 rfl (fun v3 hq => ?_)
    refine bd_alen (pc := 15) hq dX5_push_15 (fun v4 hq => ?_)
    refine bd_icmp_ge (pc := 16) (tgt := 39) hq dX5_push_16 (by decide) (fun _ hq => ?_) (fun _ hq => ?_)
    ·
      exact bd_vret (pc := 39) hq dX5_push_39 rfl
    ·
      refine st_aload_n (pc := 19) dX5_push_19 rfl ?_
      refine bd_getr (pc := 20) hq dX5_push_20 fl_5_24_5 rfl (fun v5 hq => ?_)
      refine st_aload_n (pc := 23) dX5_push_23 rfl ?_
      refine bd_geti (pc := 24) hq dX5_push_24 fl_5_27_5 rfl (fun v6 hq => ?_)
      refine st_iload_n (pc := 27) dX5_push_27 rfl ?_
      refine bd_iast (pc := 28) hq dX5_push_28 (fun h7 hq => ?_)
      refine st_aload_n (pc := 29) dX5_push_29 rfl ?_
      refine st_dup (pc := 30) dX5_push_30 rfl ?_
      refine bd_geti (pc := 31) hq dX5_push_31 fl_5_27_5 rfl (fun v8 hq => ?_)
      refine st_iconst (pc := 34) (v := (1 : Int32)) dX5_push_34 rfl ?_
      refine st_iadd (pc := 35) dX5_push_35 ?_
      refine bd_puti (pc := 36) hq dX5_push_36 fl_5_27_5 (Or.inl rfl) rfl (fun h9 hq => ?_)
      exact bd_vret (pc := 39) hq dX5_push_39 rfl
-- HoleWater$Reader.valueOf(I)I
theorem dX5_valueOf_13 : decode cX5_valueOf 13 = .ok (.iconst 0, 1) := by decide +kernel
theorem dX5_valueOf_14 : decode cX5_valueOf 14 = .ok (.goto 9, 3) := by decide +kernel
theorem dX5_valueOf_23 : decode cX5_valueOf 23 = .ok (.ireturn, 1) := by decide +kernel
theorem dX5_valueOf_0 : decode cX5_valueOf 0 = .ok (.iload_n 1, 1) := by decide +kernel
theorem dX5_valueOf_1 : decode cX5_valueOf 1 = .ok (.ifCond .lt 12, 3) := by decide +kernel
theorem dX5_valueOf_4 : decode cX5_valueOf 4 = .ok (.iload_n 1, 1) := by decide +kernel
theorem dX5_valueOf_5 : decode cX5_valueOf 5 = .ok (.aload_n 0, 1) := by decide +kernel
theorem dX5_valueOf_6 : decode cX5_valueOf 6 = .ok (.getfield 9, 3) := by decide +kernel
theorem dX5_valueOf_9 : decode cX5_valueOf 9 = .ok (.arraylength, 1) := by decide +kernel
theorem dX5_valueOf_10 : decode cX5_valueOf 10 = .ok (.if_icmp .lt 7, 3) := by decide +kernel
theorem dX5_valueOf_17 : decode cX5_valueOf 17 = .ok (.aload_n 0, 1) := by decide +kernel
theorem dX5_valueOf_18 : decode cX5_valueOf 18 = .ok (.getfield 9, 3) := by decide +kernel
theorem dX5_valueOf_21 : decode cX5_valueOf 21 = .ok (.iload_n 1, 1) := by decide +kernel
theorem dX5_valueOf_22 : decode cX5_valueOf 22 = .ok (.iaload, 1) := by decide +kernel
def D_X5_valueOf_13 (N : Nat) (h : mh_H) : Option (Int32 × mh_H) :=
  some ((0 : Int32), h)
set_option maxHeartbeats 4000000 in
set_option maxRecDepth 100000 in
theorem T_X5_valueOf_13 {P : mh_E → Prop} {N d : Nat} (hd : 1 ≤ d) {z : (Int32 × mh_H)} {h : mh_H} (hq : D_X5_valueOf_13 N h = some z) : mh_go P d mX5_valueOf 13 [none, none] [] h (some (.int z.1)) z.2 := by
  unfold D_X5_valueOf_13 at hq
  refine st_iconst (pc := 13) (v := (0 : Int32)) dX5_valueOf_13 rfl ?_
  refine st_goto (pc := 14) (tgt := 23) dX5_valueOf_14 (by decide) ?_
  exact bd_iret (pc := 23) hq dX5_valueOf_23 rfl
def D_X5_valueOf (N : Nat) (h : mh_H) (l0 : Nat) (l1 : Int32) : Option (Int32 × mh_H) :=
  if l1 < 0 then (D_X5_valueOf_13 N h)
  else ((gR h 5 l0 0).bind fun v1 =>
  (aL h v1).bind fun v2 =>
  if l1 < v2 then ((gR h 5 l0 0).bind fun v3 =>
  (aI h v3 l1).bind fun v4 =>
  some (v4, h))
  else (D_X5_valueOf_13 N h))
set_option maxHeartbeats 4000000 in
set_option maxRecDepth 100000 in
theorem T_X5_valueOf {P : mh_E → Prop} {N d : Nat} (hd : 1 ≤ d) {z : (Int32 × mh_H)} {h : mh_H} {l0 : Nat} {l1 : Int32} (hq : D_X5_valueOf N h l0 l1 = some z) : mh_go P d mX5_valueOf 0 [some (.ref l0), some (.int l1)] [] h (some (.int z.1)) z.2 := by
  unfold D_X5_valueOf at hq
  refine st_iload_n (pc := 0) dX5_valueOf_0 rfl ?_
  refine bd_if_lt (pc := 1) (tgt := 13) hq dX5_valueOf_1 (by decide) (fun _ hq => ?_) (fun _ hq => ?_)
  ·
    refine st_lesS (lv' := [none, none]) ⟨Or.inl rfl, Or.inl rfl, trivial⟩ ?_
    exact T_X5_valueOf_13 hd hq
  ·
    refine st_iload_n (pc := 4) dX5_valueOf_4 rfl ?_
    refine st_aload_n (pc := 5) dX5_valueOf_5 rfl ?_
    refine bd_getr (pc := 6) hq dX5_valueOf_6 fl_5_9_5 rfl (fun v1 hq => ?_)
    refine bd_alen (pc := 9) hq dX5_valueOf_9 (fun v2 hq => ?_)
    refine bd_icmp_lt (pc := 10) (tgt := 17) hq dX5_valueOf_10 (by decide) (fun _ hq => ?_) (fun _ hq => ?_)
    ·
      refine st_aload_n (pc := 17) dX5_valueOf_17 rfl ?_
      refine bd_getr (pc := 18) hq dX5_valueOf_18 fl_5_9_5 rfl (fun v3 hq => ?_)
      refine st_iload_n (pc := 21) dX5_valueOf_21 rfl ?_
      refine bd_iald (pc := 22) hq dX5_valueOf_22 (fun v4 hq => ?_)
      exact bd_iret (pc := 23) hq dX5_valueOf_23 rfl
    ·
      refine st_lesS (lv' := [none, none]) ⟨Or.inl rfl, Or.inl rfl, trivial⟩ ?_
      exact T_X5_valueOf_13 hd hq
-- HoleWater$Reader.workOut(III)I
theorem dX5_workOut_0 : decode cX5_workOut 0 = .ok (.iload_n 1, 1) := by decide +kernel
theorem dX5_workOut_1 : decode cX5_workOut 1 = .ok (.tableswitch 135 42 61 #[103, 95, 135, 99, 135, 107, 135, 135, 135, 135, 135, 135, 135, 135, 135, 135, 135, 135, 113, 124], 95) := by decide +kernel
theorem dX5_workOut_104 : decode cX5_workOut 104 = .ok (.iload_n 0, 1) := by decide +kernel
theorem dX5_workOut_105 : decode cX5_workOut 105 = .ok (.iload_n 2, 1) := by decide +kernel
theorem dX5_workOut_106 : decode cX5_workOut 106 = .ok (.imul, 1) := by decide +kernel
theorem dX5_workOut_107 : decode cX5_workOut 107 = .ok (.ireturn, 1) := by decide +kernel
theorem dX5_workOut_96 : decode cX5_workOut 96 = .ok (.iload_n 0, 1) := by decide +kernel
theorem dX5_workOut_97 : decode cX5_workOut 97 = .ok (.iload_n 2, 1) := by decide +kernel
theorem dX5_workOut_98 : decode cX5_workOut 98 = .ok (.iadd, 1) := by decide +kernel
theorem dX5_workOut_99 : decode cX5_workOut 99 = .ok (.ireturn, 1) := by decide +kernel
theorem dX5_workOut_136 : decode cX5_workOut 136 = .ok (.iload_n 0, 1) := by decide +kernel
theorem dX5_workOut_137 : decode cX5_workOut 137 = .ok (.iload_n 2, 1) := by decide +kernel
theorem dX5_workOut_138 : decode cX5_workOut 138 = .ok (.if_icmp .le 7, 3) := by decide +kernel
theorem dX5_workOut_145 : decode cX5_workOut 145 = .ok (.iconst 0, 1) := by decide +kernel
theorem dX5_workOut_146 : decode cX5_workOut 146 = .ok (.ireturn, 1) := by decide +kernel
theorem dX5_workOut_141 : decode cX5_workOut 141 = .ok (.iconst 1, 1) := by decide +kernel
theorem dX5_workOut_142 : decode cX5_workOut 142 = .ok (.goto 4, 3) := by decide +kernel
theorem dX5_workOut_100 : decode cX5_workOut 100 = .ok (.iload_n 0, 1) := by decide +kernel
theorem dX5_workOut_101 : decode cX5_workOut 101 = .ok (.iload_n 2, 1) := by decide +kernel
theorem dX5_workOut_102 : decode cX5_workOut 102 = .ok (.isub, 1) := by decide +kernel
theorem dX5_workOut_103 : decode cX5_workOut 103 = .ok (.ireturn, 1) := by decide +kernel
theorem dX5_workOut_108 : decode cX5_workOut 108 = .ok (.iload_n 0, 1) := by decide +kernel
theorem dX5_workOut_109 : decode cX5_workOut 109 = .ok (.iload_n 2, 1) := by decide +kernel
theorem dX5_workOut_110 : decode cX5_workOut 110 = .ok (.invokestatic 115, 3) := by decide +kernel
theorem dX5_workOut_113 : decode cX5_workOut 113 = .ok (.ireturn, 1) := by decide +kernel
theorem dX5_workOut_114 : decode cX5_workOut 114 = .ok (.iload_n 0, 1) := by decide +kernel
theorem dX5_workOut_115 : decode cX5_workOut 115 = .ok (.iload_n 2, 1) := by decide +kernel
theorem dX5_workOut_116 : decode cX5_workOut 116 = .ok (.if_icmp .ge 7, 3) := by decide +kernel
theorem dX5_workOut_123 : decode cX5_workOut 123 = .ok (.iconst 0, 1) := by decide +kernel
theorem dX5_workOut_124 : decode cX5_workOut 124 = .ok (.ireturn, 1) := by decide +kernel
theorem dX5_workOut_119 : decode cX5_workOut 119 = .ok (.iconst 1, 1) := by decide +kernel
theorem dX5_workOut_120 : decode cX5_workOut 120 = .ok (.goto 4, 3) := by decide +kernel
theorem dX5_workOut_125 : decode cX5_workOut 125 = .ok (.iload_n 0, 1) := by decide +kernel
theorem dX5_workOut_126 : decode cX5_workOut 126 = .ok (.iload_n 2, 1) := by decide +kernel
theorem dX5_workOut_127 : decode cX5_workOut 127 = .ok (.if_icmp .ne 7, 3) := by decide +kernel
theorem dX5_workOut_130 : decode cX5_workOut 130 = .ok (.iconst 1, 1) := by decide +kernel
theorem dX5_workOut_131 : decode cX5_workOut 131 = .ok (.goto 4, 3) := by decide +kernel
theorem dX5_workOut_135 : decode cX5_workOut 135 = .ok (.ireturn, 1) := by decide +kernel
theorem dX5_workOut_134 : decode cX5_workOut 134 = .ok (.iconst 0, 1) := by decide +kernel
def D_X5_workOut (N : Nat) (h : mh_H) (l0 : Int32) (l1 : Int32) (l2 : Int32) : Option (Int32 × mh_H) :=
  if l1 = 42 then (some (l0 * l2, h))
  else if l1 = 43 then (some (l0 + l2, h))
  else if l1 = 44 then (if l0 ≤ l2 then (some ((0 : Int32), h))
  else (some ((1 : Int32), h)))
  else if l1 = 45 then (some (l0 - l2, h))
  else if l1 = 46 then (if l0 ≤ l2 then (some ((0 : Int32), h))
  else (some ((1 : Int32), h)))
  else if l1 = 47 then ((D_X11_by N h l0 l2).bind fun q1 =>
  some (q1.1, q1.2))
  else if l1 = 48 then (if l0 ≤ l2 then (some ((0 : Int32), h))
  else (some ((1 : Int32), h)))
  else if l1 = 49 then (if l0 ≤ l2 then (some ((0 : Int32), h))
  else (some ((1 : Int32), h)))
  else if l1 = 50 then (if l0 ≤ l2 then (some ((0 : Int32), h))
  else (some ((1 : Int32), h)))
  else if l1 = 51 then (if l0 ≤ l2 then (some ((0 : Int32), h))
  else (some ((1 : Int32), h)))
  else if l1 = 52 then (if l0 ≤ l2 then (some ((0 : Int32), h))
  else (some ((1 : Int32), h)))
  else if l1 = 53 then (if l0 ≤ l2 then (some ((0 : Int32), h))
  else (some ((1 : Int32), h)))
  else if l1 = 54 then (if l0 ≤ l2 then (some ((0 : Int32), h))
  else (some ((1 : Int32), h)))
  else if l1 = 55 then (if l0 ≤ l2 then (some ((0 : Int32), h))
  else (some ((1 : Int32), h)))
  else if l1 = 56 then (if l0 ≤ l2 then (some ((0 : Int32), h))
  else (some ((1 : Int32), h)))
  else if l1 = 57 then (if l0 ≤ l2 then (some ((0 : Int32), h))
  else (some ((1 : Int32), h)))
  else if l1 = 58 then (if l0 ≤ l2 then (some ((0 : Int32), h))
  else (some ((1 : Int32), h)))
  else if l1 = 59 then (if l0 ≤ l2 then (some ((0 : Int32), h))
  else (some ((1 : Int32), h)))
  else if l1 = 60 then (if l2 ≤ l0 then (some ((0 : Int32), h))
  else (some ((1 : Int32), h)))
  else if l1 = 61 then (if l0 = l2 then (some ((1 : Int32), h))
  else (some ((0 : Int32), h)))
  else (if l0 ≤ l2 then (some ((0 : Int32), h))
  else (some ((1 : Int32), h)))
set_option maxHeartbeats 4000000 in
set_option maxRecDepth 100000 in
theorem T_X5_workOut {P : mh_E → Prop} {N d : Nat} (hd : 2 ≤ d) {z : (Int32 × mh_H)} {h : mh_H} {l0 : Int32} {l1 : Int32} {l2 : Int32} (hq : D_X5_workOut N h l0 l1 l2 = some z) : mh_go P d mX5_workOut 0 [some (.int l0), some (.int l1), some (.int l2)] [] h (some (.int z.1)) z.2 := by
  unfold D_X5_workOut at hq
  refine st_iload_n (pc := 0) dX5_workOut_0 rfl ?_
  by_cases c42 : l1 = 42
  ·
    rw [if_pos c42] at hq
    refine st_tin (pc := 1) (tgt := 104) dX5_workOut_1 (by rw [c42]; decide) (by rw [c42]; decide) (by rw [c42]; rfl) (by decide) ?_
    refine st_iload_n (pc := 104) dX5_workOut_104 rfl ?_
    refine st_iload_n (pc := 105) dX5_workOut_105 rfl ?_
    refine st_imul (pc := 106) dX5_workOut_106 ?_
    exact bd_iret (pc := 107) hq dX5_workOut_107 rfl
  ·
    rw [if_neg c42] at hq
    by_cases c43 : l1 = 43
    ·
      rw [if_pos c43] at hq
      refine st_tin (pc := 1) (tgt := 96) dX5_workOut_1 (by rw [c43]; decide) (by rw [c43]; decide) (by rw [c43]; rfl) (by decide) ?_
      refine st_iload_n (pc := 96) dX5_workOut_96 rfl ?_
      refine st_iload_n (pc := 97) dX5_workOut_97 rfl ?_
      refine st_iadd (pc := 98) dX5_workOut_98 ?_
      exact bd_iret (pc := 99) hq dX5_workOut_99 rfl
    ·
      rw [if_neg c43] at hq
      by_cases c44 : l1 = 44
      ·
        rw [if_pos c44] at hq
        refine st_tin (pc := 1) (tgt := 136) dX5_workOut_1 (by rw [c44]; decide) (by rw [c44]; decide) (by rw [c44]; rfl) (by decide) ?_
        refine st_iload_n (pc := 136) dX5_workOut_136 rfl ?_
        refine st_iload_n (pc := 137) dX5_workOut_137 rfl ?_
        refine bd_icmp_le (pc := 138) (tgt := 145) hq dX5_workOut_138 (by decide) (fun _ hq => ?_) (fun _ hq => ?_)
        ·
          refine st_iconst (pc := 145) (v := (0 : Int32)) dX5_workOut_145 rfl ?_
          exact bd_iret (pc := 146) hq dX5_workOut_146 rfl
        ·
          refine st_iconst (pc := 141) (v := (1 : Int32)) dX5_workOut_141 rfl ?_
          refine st_goto (pc := 142) (tgt := 146) dX5_workOut_142 (by decide) ?_
          exact bd_iret (pc := 146) hq dX5_workOut_146 rfl
      ·
        rw [if_neg c44] at hq
        by_cases c45 : l1 = 45
        ·
          rw [if_pos c45] at hq
          refine st_tin (pc := 1) (tgt := 100) dX5_workOut_1 (by rw [c45]; decide) (by rw [c45]; decide) (by rw [c45]; rfl) (by decide) ?_
          refine st_iload_n (pc := 100) dX5_workOut_100 rfl ?_
          refine st_iload_n (pc := 101) dX5_workOut_101 rfl ?_
          refine st_isub (pc := 102) dX5_workOut_102 ?_
          exact bd_iret (pc := 103) hq dX5_workOut_103 rfl
        ·
          rw [if_neg c45] at hq
          by_cases c46 : l1 = 46
          ·
            rw [if_pos c46] at hq
            refine st_tin (pc := 1) (tgt := 136) dX5_workOut_1 (by rw [c46]; decide) (by rw [c46]; decide) (by rw [c46]; rfl) (by decide) ?_
            refine st_iload_n (pc := 136) dX5_workOut_136 rfl ?_
            refine st_iload_n (pc := 137) dX5_workOut_137 rfl ?_
            refine bd_icmp_le (pc := 138) (tgt := 145) hq dX5_workOut_138 (by decide) (fun _ hq => ?_) (fun _ hq => ?_)
            ·
              refine st_iconst (pc := 145) (v := (0 : Int32)) dX5_workOut_145 rfl ?_
              exact bd_iret (pc := 146) hq dX5_workOut_146 rfl
            ·
              refine st_iconst (pc := 141) (v := (1 : Int32)) dX5_workOut_141 rfl ?_
              refine st_goto (pc := 142) (tgt := 146) dX5_workOut_142 (by decide) ?_
              exact bd_iret (pc := 146) hq dX5_workOut_146 rfl
          ·
            rw [if_neg c46] at hq
            by_cases c47 : l1 = 47
            ·
              rw [if_pos c47] at hq
              refine st_tin (pc := 1) (tgt := 108) dX5_workOut_1 (by rw [c47]; decide) (by rw [c47]; decide) (by rw [c47]; rfl) (by decide) ?_
              refine st_iload_n (pc := 108) dX5_workOut_108 rfl ?_
              refine st_iload_n (pc := 109) dX5_workOut_109 rfl ?_
              obtain ⟨q1, e1, hq⟩ := mh_ob hq
              refine st_invSN (pc := 110) (Y := mX11_by) (vs := [.int l0, .int l2]) (rest := []) (st2 := [.int q1.1]) dX5_workOut_110 okX11_by wn_569 wd_539 pdX11_by rfl rfl rfl rfl (Nat.le_trans (by decide) hd) (Nat.le_of_ble_eq_true rfl) (T_X11_by (Nat.le_refl _) e1) rfl ?_
              exact bd_iret (pc := 113) hq dX5_workOut_113 rfl
            ·
              rw [if_neg c47] at hq
              by_cases c48 : l1 = 48
              ·
                rw [if_pos c48] at hq
                refine st_tin (pc := 1) (tgt := 136) dX5_workOut_1 (by rw [c48]; decide) (by rw [c48]; decide) (by rw [c48]; rfl) (by decide) ?_
                refine st_iload_n (pc := 136) dX5_workOut_136 rfl ?_
                refine st_iload_n (pc := 137) dX5_workOut_137 rfl ?_
                refine bd_icmp_le (pc := 138) (tgt := 145) hq dX5_workOut_138 (by decide) (fun _ hq => ?_) (fun _ hq => ?_)
                ·
                  refine st_iconst (pc := 145) (v := (0 : Int32)) dX5_workOut_145 rfl ?_
                  exact bd_iret (pc := 146) hq dX5_workOut_146 rfl
                ·
                  refine st_iconst (pc := 141) (v := (1 : Int32)) dX5_workOut_141 rfl ?_
                  refine st_goto (pc := 142) (tgt := 146) dX5_workOut_142 (by decide) ?_
                  exact bd_iret (pc := 146) hq dX5_workOut_146 rfl
              ·
                rw [if_neg c48] at hq
                by_cases c49 : l1 = 49
                ·
                  rw [if_pos c49] at hq
                  refine st_tin (pc := 1) (tgt := 136) dX5_workOut_1 (by rw [c49]; decide) (by rw [c49]; decide) (by rw [c49]; rfl) (by decide) ?_
                  refine st_iload_n (pc := 136) dX5_workOut_136 rfl ?_
                  refine st_iload_n (pc := 137) dX5_workOut_137 rfl ?_
                  refine bd_icmp_le (pc := 138) (tgt := 145) hq dX5_workOut_138 (by decide) (fun _ hq => ?_) (fun _ hq => ?_)
                  ·
                    refine st_iconst (pc := 145) (v := (0 : Int32)) dX5_workOut_145 rfl ?_
                    exact bd_iret (pc := 146) hq dX5_workOut_146 rfl
                  ·
                    refine st_iconst (pc := 141) (v := (1 : Int32)) dX5_workOut_141 rfl ?_
                    refine st_goto (pc := 142) (tgt := 146) dX5_workOut_142 (by decide) ?_
                    exact bd_iret (pc := 146) hq dX5_workOut_146 rfl
                ·
                  rw [if_neg c49] at hq
                  by_cases c50 : l1 = 50
                  ·
                    rw [if_pos c50] at hq
                    refine st_tin (pc := 1) (tgt := 136) dX5_workOut_1 (by rw [c50]; decide) (by rw [c50]; decide) (by rw [c50]; rfl) (by decide) ?_
                    refine st_iload_n (pc := 136) dX5_workOut_136 rfl ?_
                    refine st_iload_n (pc := 137) dX5_workOut_137 rfl ?_
                    refine bd_icmp_le (pc := 138) (tgt := 145) hq dX5_workOut_138 (by decide) (fun _ hq => ?_) (fun _ hq => ?_)
                    ·
                      refine st_iconst (pc := 145) (v := (0 : Int32)) dX5_workOut_145 rfl ?_
                      exact bd_iret (pc := 146) hq dX5_workOut_146 rfl
                    ·
                      refine st_iconst (pc := 141) (v := (1 : Int32)) dX5_workOut_141 rfl ?_
                      refine st_goto (pc := 142) (tgt := 146) dX5_workOut_142 (by decide) ?_
                      exact bd_iret (pc := 146) hq dX5_workOut_146 rfl
                  ·
                    rw [if_neg c50] at hq
                    by_cases c51 : l1 = 51
                    ·
                      rw [if_pos c51] at hq
                      refine st_tin (pc := 1) (tgt := 136) dX5_workOut_1 (by rw [c51]; decide) (by rw [c51]; decide) (by rw [c51]; rfl) (by decide) ?_
                      refine st_iload_n (pc := 136) dX5_workOut_136 rfl ?_
                      refine st_iload_n (pc := 137) dX5_workOut_137 rfl ?_
                      refine bd_icmp_le (pc := 138) (tgt := 145) hq dX5_workOut_138 (by decide) (fun _ hq => ?_) (fun _ hq => ?_)
                      ·
                        refine st_iconst (pc := 145) (v := (0 : Int32)) dX5_workOut_145 rfl ?_
                        exact bd_iret (pc := 146) hq dX5_workOut_146 rfl
                      ·
                        refine st_iconst (pc := 141) (v := (1 : Int32)) dX5_workOut_141 rfl ?_
                        refine st_goto (pc := 142) (tgt := 146) dX5_workOut_142 (by decide) ?_
                        exact bd_iret (pc := 146) hq dX5_workOut_146 rfl
                    ·
                      rw [if_neg c51] at hq
                      by_cases c52 : l1 = 52
                      ·
                        rw [if_pos c52] at hq
                        refine st_tin (pc := 1) (tgt := 136) dX5_workOut_1 (by rw [c52]; decide) (by rw [c52]; decide) (by rw [c52]; rfl) (by decide) ?_
                        refine st_iload_n (pc := 136) dX5_workOut_136 rfl ?_
                        refine st_iload_n (pc := 137) dX5_workOut_137 rfl ?_
                        refine bd_icmp_le (pc := 138) (tgt := 145) hq dX5_workOut_138 (by decide) (fun _ hq => ?_) (fun _ hq => ?_)
                        ·
                          refine st_iconst (pc := 145) (v := (0 : Int32)) dX5_workOut_145 rfl ?_
                          exact bd_iret (pc := 146) hq dX5_workOut_146 rfl
                        ·
                          refine st_iconst (pc := 141) (v := (1 : Int32)) dX5_workOut_141 rfl ?_
                          refine st_goto (pc := 142) (tgt := 146) dX5_workOut_142 (by decide) ?_
                          exact bd_iret (pc := 146) hq dX5_workOut_146 rfl
                      ·
                        rw [if_neg c52] at hq
                        by_cases c53 : l1 = 53
                        ·
                          rw [if_pos c53] at hq
                          refine st_tin (pc := 1) (tgt := 136) dX5_workOut_1 (by rw [c53]; decide) (by rw [c53]; decide) (by rw [c53]; rfl) (by decide) ?_
                          refine st_iload_n (pc := 136) dX5_workOut_136 rfl ?_
                          refine st_iload_n (pc := 137) dX5_workOut_137 rfl ?_
                          refine bd_icmp_le (pc := 138) (tgt := 145) hq dX5_workOut_138 (by decide) (fun _ hq => ?_) (fun _ hq => ?_)
                          ·
                            refine st_iconst (pc := 145) (v := (0 : Int32)) dX5_workOut_145 rfl ?_
                            exact bd_iret (pc := 146) hq dX5_workOut_146 rfl
                          ·
                            refine st_iconst (pc := 141) (v := (1 : Int32)) dX5_workOut_141 rfl ?_
                            refine st_goto (pc := 142) (tgt := 146) dX5_workOut_142 (by decide) ?_
                            exact bd_iret (pc := 146) hq dX5_workOut_146 rfl
                        ·
                          rw [if_neg c53] at hq
                          by_cases c54 : l1 = 54
                          ·
                            rw [if_pos c54] at hq
                            refine st_tin (pc := 1) (tgt := 136) dX5_workOut_1 (by rw [c54]; decide) (by rw [c54]; decide) (by rw [c54]; rfl) (by decide) ?_
                            refine st_iload_n (pc := 136) dX5_workOut_136 rfl ?_
                            refine st_iload_n (pc := 137) dX5_workOut_137 rfl ?_
                            refine bd_icmp_le (pc := 138) (tgt := 145) hq dX5_workOut_138 (by decide) (fun _ hq => ?_) (fun _ hq => ?_)
                            ·
                              refine st_iconst (pc := 145) (v := (0 : Int32)) dX5_workOut_145 rfl ?_
                              exact bd_iret (pc := 146) hq dX5_workOut_146 rfl
                            ·
                              refine st_iconst (pc := 141) (v := (1 : Int32)) dX5_workOut_141 rfl ?_
                              refine st_goto (pc := 142) (tgt := 146) dX5_workOut_142 (by decide) ?_
                              exact bd_iret (pc := 146) hq dX5_workOut_146 rfl
                          ·
                            rw [if_neg c54] at hq
                            by_cases c55 : l1 = 55
                            ·
                              rw [if_pos c55] at hq
                              refine st_tin (pc := 1) (tgt := 136) dX5_workOut_1 (by rw [c55]; decide) (by rw [c55]; decide) (by rw [c55]; rfl) (by decide) ?_
                              refine st_iload_n (pc := 136) dX5_workOut_136 rfl ?_
                              refine st_iload_n (pc := 137) dX5_workOut_137 rfl ?_
                              refine bd_icmp_le (pc := 138) (tgt := 145) hq dX5_workOut_138 (by decide) (fun _ hq => ?_) (fun _ hq => ?_)
                              ·
                                refine st_iconst (pc := 145) (v := (0 : Int32)) dX5_workOut_145 rfl ?_
                                exact bd_iret (pc := 146) hq dX5_workOut_146 rfl
                              ·
                                refine st_iconst (pc := 141) (v := (1 : Int32)) dX5_workOut_141 rfl ?_
                                refine st_goto (pc := 142) (tgt := 146) dX5_workOut_142 (by decide) ?_
                                exact bd_iret (pc := 146) hq dX5_workOut_146 rfl
                            ·
                              rw [if_neg c55] at hq
                              by_cases c56 : l1 = 56
                              ·
                                rw [if_pos c56] at hq
                                refine st_tin (pc := 1) (tgt := 136) dX5_workOut_1 (by rw [c56]; decide) (by rw [c56]; decide) (by rw [c56]; rfl) (by decide) ?_
                                refine st_iload_n (pc := 136) dX5_workOut_136 rfl ?_
                                refine st_iload_n (pc := 137) dX5_workOut_137 rfl ?_
                                refine bd_icmp_le (pc := 138) (tgt := 145) hq dX5_workOut_138 (by decide) (fun _ hq => ?_) (fun _ hq => ?_)
                                ·
                                  refine st_iconst (pc := 145) (v := (0 : Int32)) dX5_workOut_145 rfl ?_
                                  exact bd_iret (pc := 146) hq dX5_workOut_146 rfl
                                ·
                                  refine st_iconst (pc := 141) (v := (1 : Int32)) dX5_workOut_141 rfl ?_
                                  refine st_goto (pc := 142) (tgt := 146) dX5_workOut_142 (by decide) ?_
                                  exact bd_iret (pc := 146) hq dX5_workOut_146 rfl
                              ·
                                rw [if_neg c56] at hq
                                by_cases c57 : l1 = 57
                                ·
                                  rw [if_pos c57] at hq
                                  refine st_tin (pc := 1) (tgt := 136) dX5_workOut_1 (by rw [c57]; decide) (by rw [c57]; decide) (by rw [c57]; rfl) (by decide) ?_
                                  refine st_iload_n (pc := 136) dX5_workOut_136 rfl ?_
                                  refine st_iload_n (pc := 137) dX5_workOut_137 rfl ?_
                                  refine bd_icmp_le (pc := 138) (tgt := 145) hq dX5_workOut_138 (by decide) (fun _ hq => ?_) (fun _ hq => ?_)
                                  ·
                                    refine st_iconst (pc := 145) (v := (0 : Int32)) dX5_workOut_145 rfl ?_
                                    exact bd_iret (pc := 146) hq dX5_workOut_146 rfl
                                  ·
                                    refine st_iconst (pc := 141) (v := (1 : Int32)) dX5_workOut_141 rfl ?_
                                    refine st_goto (pc := 142) (tgt := 146) dX5_workOut_142 (by decide) ?_
                                    exact bd_iret (pc := 146) hq dX5_workOut_146 rfl
                                ·
                                  rw [if_neg c57] at hq
                                  by_cases c58 : l1 = 58
                                  ·
                                    rw [if_pos c58] at hq
                                    refine st_tin (pc := 1) (tgt := 136) dX5_workOut_1 (by rw [c58]; decide) (by rw [c58]; decide) (by rw [c58]; rfl) (by decide) ?_
                                    refine st_iload_n (pc := 136) dX5_workOut_136 rfl ?_
                                    refine st_iload_n (pc := 137) dX5_workOut_137 rfl ?_
                                    refine bd_icmp_le (pc := 138) (tgt := 145) hq dX5_workOut_138 (by decide) (fun _ hq => ?_) (fun _ hq => ?_)
                                    ·
                                      refine st_iconst (pc := 145) (v := (0 : Int32)) dX5_workOut_145 rfl ?_
                                      exact bd_iret (pc := 146) hq dX5_workOut_146 rfl
                                    ·
                                      refine st_iconst (pc := 141) (v := (1 : Int32)) dX5_workOut_141 rfl ?_
                                      refine st_goto (pc := 142) (tgt := 146) dX5_workOut_142 (by decide) ?_
                                      exact bd_iret (pc := 146) hq dX5_workOut_146 rfl
                                  ·
                                    rw [if_neg c58] at hq
                                    by_cases c59 : l1 = 59
                                    ·
                                      rw [if_pos c59] at hq
                                      refine st_tin (pc := 1) (tgt := 136) dX5_workOut_1 (by rw [c59]; decide) (by rw [c59]; decide) (by rw [c59]; rfl) (by decide) ?_
                                      refine st_iload_n (pc := 136) dX5_workOut_136 rfl ?_
                                      refine st_iload_n (pc := 137) dX5_workOut_137 rfl ?_
                                      refine bd_icmp_le (pc := 138) (tgt := 145) hq dX5_workOut_138 (by decide) (fun _ hq => ?_) (fun _ hq => ?_)
                                      ·
                                        refine st_iconst (pc := 145) (v := (0 : Int32)) dX5_workOut_145 rfl ?_
                                        exact bd_iret (pc := 146) hq dX5_workOut_146 rfl
                                      ·
                                        refine st_iconst (pc := 141) (v := (1 : Int32)) dX5_workOut_141 rfl ?_
                                        refine st_goto (pc := 142) (tgt := 146) dX5_workOut_142 (by decide) ?_
                                        exact bd_iret (pc := 146) hq dX5_workOut_146 rfl
                                    ·
                                      rw [if_neg c59] at hq
                                      by_cases c60 : l1 = 60
                                      ·
                                        rw [if_pos c60] at hq
                                        refine st_tin (pc := 1) (tgt := 114) dX5_workOut_1 (by rw [c60]; decide) (by rw [c60]; decide) (by rw [c60]; rfl) (by decide) ?_
                                        refine st_iload_n (pc := 114) dX5_workOut_114 rfl ?_
                                        refine st_iload_n (pc := 115) dX5_workOut_115 rfl ?_
                                        refine bd_icmp_ge (pc := 116) (tgt := 123) hq dX5_workOut_116 (by decide) (fun _ hq => ?_) (fun _ hq => ?_)
                                        ·
                                          refine st_iconst (pc := 123) (v := (0 : Int32)) dX5_workOut_123 rfl ?_
                                          exact bd_iret (pc := 124) hq dX5_workOut_124 rfl
                                        ·
                                          refine st_iconst (pc := 119) (v := (1 : Int32)) dX5_workOut_119 rfl ?_
                                          refine st_goto (pc := 120) (tgt := 124) dX5_workOut_120 (by decide) ?_
                                          exact bd_iret (pc := 124) hq dX5_workOut_124 rfl
                                      ·
                                        rw [if_neg c60] at hq
                                        by_cases c61 : l1 = 61
                                        ·
                                          rw [if_pos c61] at hq
                                          refine st_tin (pc := 1) (tgt := 125) dX5_workOut_1 (by rw [c61]; decide) (by rw [c61]; decide) (by rw [c61]; rfl) (by decide) ?_
                                          refine st_iload_n (pc := 125) dX5_workOut_125 rfl ?_
                                          refine st_iload_n (pc := 126) dX5_workOut_126 rfl ?_
                                          refine bd_icmp_ne (pc := 127) (tgt := 134) hq dX5_workOut_127 (by decide) (fun _ hq => ?_) (fun _ hq => ?_)
                                          ·
                                            refine st_iconst (pc := 130) (v := (1 : Int32)) dX5_workOut_130 rfl ?_
                                            refine st_goto (pc := 131) (tgt := 135) dX5_workOut_131 (by decide) ?_
                                            exact bd_iret (pc := 135) hq dX5_workOut_135 rfl
                                          ·
                                            refine st_iconst (pc := 134) (v := (0 : Int32)) dX5_workOut_134 rfl ?_
                                            exact bd_iret (pc := 135) hq dX5_workOut_135 rfl
                                        ·
                                          rw [if_neg c61] at hq
                                          refine st_tout (pc := 1) (tgt := 136) dX5_workOut_1 (by have e42 := lv_neT c42 (k := 42) (a := 42) (by decide); have e43 := lv_neT c43 (k := 43) (a := 43) (by decide); have e44 := lv_neT c44 (k := 44) (a := 44) (by decide); have e45 := lv_neT c45 (k := 45) (a := 45) (by decide); have e46 := lv_neT c46 (k := 46) (a := 46) (by decide); have e47 := lv_neT c47 (k := 47) (a := 47) (by decide); have e48 := lv_neT c48 (k := 48) (a := 48) (by decide); have e49 := lv_neT c49 (k := 49) (a := 49) (by decide); have e50 := lv_neT c50 (k := 50) (a := 50) (by decide); have e51 := lv_neT c51 (k := 51) (a := 51) (by decide); have e52 := lv_neT c52 (k := 52) (a := 52) (by decide); have e53 := lv_neT c53 (k := 53) (a := 53) (by decide); have e54 := lv_neT c54 (k := 54) (a := 54) (by decide); have e55 := lv_neT c55 (k := 55) (a := 55) (by decide); have e56 := lv_neT c56 (k := 56) (a := 56) (by decide); have e57 := lv_neT c57 (k := 57) (a := 57) (by decide); have e58 := lv_neT c58 (k := 58) (a := 58) (by decide); have e59 := lv_neT c59 (k := 59) (a := 59) (by decide); have e60 := lv_neT c60 (k := 60) (a := 60) (by decide); have e61 := lv_neT c61 (k := 61) (a := 61) (by decide); omega) (by decide) ?_
                                          refine st_iload_n (pc := 136) dX5_workOut_136 rfl ?_
                                          refine st_iload_n (pc := 137) dX5_workOut_137 rfl ?_
                                          refine bd_icmp_le (pc := 138) (tgt := 145) hq dX5_workOut_138 (by decide) (fun _ hq => ?_) (fun _ hq => ?_)
                                          ·
                                            refine st_iconst (pc := 145) (v := (0 : Int32)) dX5_workOut_145 rfl ?_
                                            exact bd_iret (pc := 146) hq dX5_workOut_146 rfl
                                          ·
                                            refine st_iconst (pc := 141) (v := (1 : Int32)) dX5_workOut_141 rfl ?_
                                            refine st_goto (pc := 142) (tgt := 146) dX5_workOut_142 (by decide) ?_
                                            exact bd_iret (pc := 146) hq dX5_workOut_146 rfl
-- HoleWater$Row.get(I)I
theorem dX6_get_13 : decode cX6_get 13 = .ok (.iconst (-1), 1) := by decide +kernel
theorem dX6_get_14 : decode cX6_get 14 = .ok (.goto 9, 3) := by decide +kernel
theorem dX6_get_23 : decode cX6_get 23 = .ok (.ireturn, 1) := by decide +kernel
theorem dX6_get_0 : decode cX6_get 0 = .ok (.iload_n 1, 1) := by decide +kernel
theorem dX6_get_1 : decode cX6_get 1 = .ok (.ifCond .lt 12, 3) := by decide +kernel
theorem dX6_get_4 : decode cX6_get 4 = .ok (.iload_n 1, 1) := by decide +kernel
theorem dX6_get_5 : decode cX6_get 5 = .ok (.aload_n 0, 1) := by decide +kernel
theorem dX6_get_6 : decode cX6_get 6 = .ok (.getfield 19, 3) := by decide +kernel
theorem dX6_get_9 : decode cX6_get 9 = .ok (.arraylength, 1) := by decide +kernel
theorem dX6_get_10 : decode cX6_get 10 = .ok (.if_icmp .lt 7, 3) := by decide +kernel
theorem dX6_get_17 : decode cX6_get 17 = .ok (.aload_n 0, 1) := by decide +kernel
theorem dX6_get_18 : decode cX6_get 18 = .ok (.getfield 19, 3) := by decide +kernel
theorem dX6_get_21 : decode cX6_get 21 = .ok (.iload_n 1, 1) := by decide +kernel
theorem dX6_get_22 : decode cX6_get 22 = .ok (.iaload, 1) := by decide +kernel
def D_X6_get_13 (N : Nat) (h : mh_H) : Option (Int32 × mh_H) :=
  some ((-1 : Int32), h)
set_option maxHeartbeats 4000000 in
set_option maxRecDepth 100000 in
theorem T_X6_get_13 {P : mh_E → Prop} {N d : Nat} (hd : 1 ≤ d) {z : (Int32 × mh_H)} {h : mh_H} (hq : D_X6_get_13 N h = some z) : mh_go P d mX6_get 13 [none, none] [] h (some (.int z.1)) z.2 := by
  unfold D_X6_get_13 at hq
  refine st_iconst (pc := 13) (v := (-1 : Int32)) dX6_get_13 rfl ?_
  refine st_goto (pc := 14) (tgt := 23) dX6_get_14 (by decide) ?_
  exact bd_iret (pc := 23) hq dX6_get_23 rfl
def D_X6_get (N : Nat) (h : mh_H) (l0 : Nat) (l1 : Int32) : Option (Int32 × mh_H) :=
  if l1 < 0 then (D_X6_get_13 N h)
  else ((gR h 6 l0 0).bind fun v1 =>
  (aL h v1).bind fun v2 =>
  if l1 < v2 then ((gR h 6 l0 0).bind fun v3 =>
  (aI h v3 l1).bind fun v4 =>
  some (v4, h))
  else (D_X6_get_13 N h))
set_option maxHeartbeats 4000000 in
set_option maxRecDepth 100000 in
theorem T_X6_get {P : mh_E → Prop} {N d : Nat} (hd : 1 ≤ d) {z : (Int32 × mh_H)} {h : mh_H} {l0 : Nat} {l1 : Int32} (hq : D_X6_get N h l0 l1 = some z) : mh_go P d mX6_get 0 [some (.ref l0), some (.int l1)] [] h (some (.int z.1)) z.2 := by
  unfold D_X6_get at hq
  refine st_iload_n (pc := 0) dX6_get_0 rfl ?_
  refine bd_if_lt (pc := 1) (tgt := 13) hq dX6_get_1 (by decide) (fun _ hq => ?_) (fun _ hq => ?_)
  ·
    refine st_lesS (lv' := [none, none]) ⟨Or.inl rfl, Or.inl rfl, trivial⟩ ?_
    exact T_X6_get_13 hd hq
  ·
    refine st_iload_n (pc := 4) dX6_get_4 rfl ?_
    refine st_aload_n (pc := 5) dX6_get_5 rfl ?_
    refine bd_getr (pc := 6) hq dX6_get_6 fl_6_19_6 rfl (fun v1 hq => ?_)
    refine bd_alen (pc := 9) hq dX6_get_9 (fun v2 hq => ?_)
    refine bd_icmp_lt (pc := 10) (tgt := 17) hq dX6_get_10 (by decide) (fun _ hq => ?_) (fun _ hq => ?_)
    ·
      refine st_aload_n (pc := 17) dX6_get_17 rfl ?_
      refine bd_getr (pc := 18) hq dX6_get_18 fl_6_19_6 rfl (fun v3 hq => ?_)
      refine st_iload_n (pc := 21) dX6_get_21 rfl ?_
      refine bd_iald (pc := 22) hq dX6_get_22 (fun v4 hq => ?_)
      exact bd_iret (pc := 23) hq dX6_get_23 rfl
    ·
      refine st_lesS (lv' := [none, none]) ⟨Or.inl rfl, Or.inl rfl, trivial⟩ ?_
      exact T_X6_get_13 hd hq
-- HoleWater$Reader.toldBy(LHoleWater$Row;)I
theorem dX5_toldBy_135 : decode cX5_toldBy 135 = .ok (.iinc 3 1, 3) := by decide +kernel
theorem dX5_toldBy_138 : decode cX5_toldBy 138 = .ok (.goto (-129), 3) := by decide +kernel
theorem dX5_toldBy_53 : decode cX5_toldBy 53 = .ok (.invokevirtual 105, 3) := by decide +kernel
theorem dX5_toldBy_56 : decode cX5_toldBy 56 = .ok (.goto 79, 3) := by decide +kernel
theorem dX5_toldBy_83 : decode cX5_toldBy 83 = .ok (.istore_n 2, 1) := by decide +kernel
theorem dX5_toldBy_84 : decode cX5_toldBy 84 = .ok (.goto 51, 3) := by decide +kernel
theorem dX5_toldBy_82 : decode cX5_toldBy 82 = .ok (.iconst 0, 1) := by decide +kernel
theorem dX5_toldBy_9 : decode cX5_toldBy 9 = .ok (.iload_n 3, 1) := by decide +kernel
theorem dX5_toldBy_10 : decode cX5_toldBy 10 = .ok (.aload_n 1, 1) := by decide +kernel
theorem dX5_toldBy_11 : decode cX5_toldBy 11 = .ok (.getfield 70, 3) := by decide +kernel
theorem dX5_toldBy_14 : decode cX5_toldBy 14 = .ok (.if_icmp .ge 127, 3) := by decide +kernel
theorem dX5_toldBy_141 : decode cX5_toldBy 141 = .ok (.iconst 0, 1) := by decide +kernel
theorem dX5_toldBy_142 : decode cX5_toldBy 142 = .ok (.ireturn, 1) := by decide +kernel
theorem dX5_toldBy_17 : decode cX5_toldBy 17 = .ok (.aload_n 1, 1) := by decide +kernel
theorem dX5_toldBy_18 : decode cX5_toldBy 18 = .ok (.iload_n 3, 1) := by decide +kernel
theorem dX5_toldBy_19 : decode cX5_toldBy 19 = .ok (.invokevirtual 99, 3) := by decide +kernel
theorem dX5_toldBy_22 : decode cX5_toldBy 22 = .ok (.istore 4, 2) := by decide +kernel
theorem dX5_toldBy_24 : decode cX5_toldBy 24 = .ok (.iload 4, 2) := by decide +kernel
theorem dX5_toldBy_26 : decode cX5_toldBy 26 = .ok (.ifCond .lt 33, 3) := by decide +kernel
theorem dX5_toldBy_59 : decode cX5_toldBy 59 = .ok (.iload 4, 2) := by decide +kernel
theorem dX5_toldBy_61 : decode cX5_toldBy 61 = .ok (.bipush (-38), 2) := by decide +kernel
theorem dX5_toldBy_63 : decode cX5_toldBy 63 = .ok (.if_icmp .ne 24, 3) := by decide +kernel
theorem dX5_toldBy_66 : decode cX5_toldBy 66 = .ok (.aload_n 0, 1) := by decide +kernel
theorem dX5_toldBy_67 : decode cX5_toldBy 67 = .ok (.invokevirtual 108, 3) := by decide +kernel
theorem dX5_toldBy_70 : decode cX5_toldBy 70 = .ok (.iconst 1, 1) := by decide +kernel
theorem dX5_toldBy_71 : decode cX5_toldBy 71 = .ok (.if_icmp .ne 11, 3) := by decide +kernel
theorem dX5_toldBy_74 : decode cX5_toldBy 74 = .ok (.iload_n 2, 1) := by decide +kernel
theorem dX5_toldBy_75 : decode cX5_toldBy 75 = .ok (.ifCond .eq 7, 3) := by decide +kernel
theorem dX5_toldBy_78 : decode cX5_toldBy 78 = .ok (.iconst 1, 1) := by decide +kernel
theorem dX5_toldBy_79 : decode cX5_toldBy 79 = .ok (.goto 4, 3) := by decide +kernel
theorem dX5_toldBy_87 : decode cX5_toldBy 87 = .ok (.iload 4, 2) := by decide +kernel
theorem dX5_toldBy_89 : decode cX5_toldBy 89 = .ok (.bipush (-59), 2) := by decide +kernel
theorem dX5_toldBy_91 : decode cX5_toldBy 91 = .ok (.if_icmp .eq 28, 3) := by decide +kernel
theorem dX5_toldBy_119 : decode cX5_toldBy 119 = .ok (.iload_n 2, 1) := by decide +kernel
theorem dX5_toldBy_120 : decode cX5_toldBy 120 = .ok (.ifCond .eq 8, 3) := by decide +kernel
theorem dX5_toldBy_128 : decode cX5_toldBy 128 = .ok (.aload_n 0, 1) := by decide +kernel
theorem dX5_toldBy_129 : decode cX5_toldBy 129 = .ok (.iconst 0, 1) := by decide +kernel
theorem dX5_toldBy_130 : decode cX5_toldBy 130 = .ok (.putfield 27, 3) := by decide +kernel
theorem dX5_toldBy_133 : decode cX5_toldBy 133 = .ok (.iconst 1, 1) := by decide +kernel
theorem dX5_toldBy_134 : decode cX5_toldBy 134 = .ok (.istore_n 2, 1) := by decide +kernel
theorem dX5_toldBy_123 : decode cX5_toldBy 123 = .ok (.aload_n 0, 1) := by decide +kernel
theorem dX5_toldBy_124 : decode cX5_toldBy 124 = .ok (.invokevirtual 108, 3) := by decide +kernel
theorem dX5_toldBy_127 : decode cX5_toldBy 127 = .ok (.ireturn, 1) := by decide +kernel
theorem dX5_toldBy_94 : decode cX5_toldBy 94 = .ok (.aload_n 0, 1) := by decide +kernel
theorem dX5_toldBy_95 : decode cX5_toldBy 95 = .ok (.invokevirtual 108, 3) := by decide +kernel
theorem dX5_toldBy_98 : decode cX5_toldBy 98 = .ok (.istore 5, 2) := by decide +kernel
theorem dX5_toldBy_100 : decode cX5_toldBy 100 = .ok (.aload_n 0, 1) := by decide +kernel
theorem dX5_toldBy_101 : decode cX5_toldBy 101 = .ok (.aload_n 0, 1) := by decide +kernel
theorem dX5_toldBy_102 : decode cX5_toldBy 102 = .ok (.invokevirtual 108, 3) := by decide +kernel
theorem dX5_toldBy_105 : decode cX5_toldBy 105 = .ok (.iload 4, 2) := by decide +kernel
theorem dX5_toldBy_107 : decode cX5_toldBy 107 = .ok (.ineg, 1) := by decide +kernel
theorem dX5_toldBy_108 : decode cX5_toldBy 108 = .ok (.iload 5, 2) := by decide +kernel
theorem dX5_toldBy_110 : decode cX5_toldBy 110 = .ok (.invokestatic 111, 3) := by decide +kernel
theorem dX5_toldBy_113 : decode cX5_toldBy 113 = .ok (.invokevirtual 105, 3) := by decide +kernel
theorem dX5_toldBy_116 : decode cX5_toldBy 116 = .ok (.goto 19, 3) := by decide +kernel
theorem dX5_toldBy_29 : decode cX5_toldBy 29 = .ok (.aload_n 0, 1) := by decide +kernel
theorem dX5_toldBy_30 : decode cX5_toldBy 30 = .ok (.iload 4, 2) := by decide +kernel
theorem dX5_toldBy_32 : decode cX5_toldBy 32 = .ok (.sipush 1000, 3) := by decide +kernel
theorem dX5_toldBy_35 : decode cX5_toldBy 35 = .ok (.if_icmp .ge 8, 3) := by decide +kernel
theorem dX5_toldBy_43 : decode cX5_toldBy 43 = .ok (.aload_n 0, 1) := by decide +kernel
theorem dX5_toldBy_44 : decode cX5_toldBy 44 = .ok (.iload 4, 2) := by decide +kernel
theorem dX5_toldBy_46 : decode cX5_toldBy 46 = .ok (.sipush 1000, 3) := by decide +kernel
theorem dX5_toldBy_49 : decode cX5_toldBy 49 = .ok (.isub, 1) := by decide +kernel
theorem dX5_toldBy_50 : decode cX5_toldBy 50 = .ok (.invokevirtual 102, 3) := by decide +kernel
theorem dX5_toldBy_38 : decode cX5_toldBy 38 = .ok (.iload 4, 2) := by decide +kernel
theorem dX5_toldBy_40 : decode cX5_toldBy 40 = .ok (.goto 13, 3) := by decide +kernel
theorem dX5_toldBy_0 : decode cX5_toldBy 0 = .ok (.aload_n 0, 1) := by decide +kernel
theorem dX5_toldBy_1 : decode cX5_toldBy 1 = .ok (.iconst 0, 1) := by decide +kernel
theorem dX5_toldBy_2 : decode cX5_toldBy 2 = .ok (.putfield 27, 3) := by decide +kernel
theorem dX5_toldBy_5 : decode cX5_toldBy 5 = .ok (.iconst 1, 1) := by decide +kernel
theorem dX5_toldBy_6 : decode cX5_toldBy 6 = .ok (.istore_n 2, 1) := by decide +kernel
theorem dX5_toldBy_7 : decode cX5_toldBy 7 = .ok (.iconst 0, 1) := by decide +kernel
theorem dX5_toldBy_8 : decode cX5_toldBy 8 = .ok (.istore_n 3, 1) := by decide +kernel
def D_X5_toldBy_135 (N : Nat) (k9 : mh_H → Nat → Nat → Int32 → Int32 → Option (Int32 × mh_H)) (h : mh_H) (l0 : Nat) (l1 : Nat) (l2 : Int32) (l3 : Int32) : Option (Int32 × mh_H) :=
  k9 h l0 l1 l2 (l3 + Int32.ofInt (1))
set_option maxHeartbeats 4000000 in
set_option maxRecDepth 100000 in
theorem T_X5_toldBy_135 {P : mh_E → Prop} {N d : Nat} (hd : 3 ≤ d) {z : (Int32 × mh_H)} {k9 : mh_H → Nat → Nat → Int32 → Int32 → Option (Int32 × mh_H)} (hk9 : ∀ (h : mh_H) (l0 : Nat) (l1 : Nat) (l2 : Int32) (l3 : Int32), k9 h l0 l1 l2 l3 = some z → mh_go P d mX5_toldBy 9 [some (.ref l0), some (.ref l1), some (.int l2), some (.int l3), none, none] [] h (some (.int z.1)) z.2) {h : mh_H} {l0 : Nat} {l1 : Nat} {l2 : Int32} {l3 : Int32} (hq : D_X5_toldBy_135 N k9 h l0 l1 l2 l3 = some z) : mh_go P d mX5_toldBy 135 [some (.ref l0), some (.ref l1), some (.int l2), some (.int l3), none, none] [] h (some (.int z.1)) z.2 := by
  unfold D_X5_toldBy_135 at hq
  refine st_iinc (pc := 135) (lv' := [some (.ref l0), some (.ref l1), some (.int l2), some (.int (l3 + Int32.ofInt (1))), none, none]) dX5_toldBy_135 rfl rfl (by decide) rfl ?_
  refine st_goto (pc := 138) (tgt := 9) dX5_toldBy_138 (by decide) ?_
  exact hk9 _ _ _ _ _ hq
def D_X5_toldBy_53 (N : Nat) (k9 : mh_H → Nat → Nat → Int32 → Int32 → Option (Int32 × mh_H)) (h : mh_H) (l0 : Nat) (l1 : Nat) (l2 : Int32) (l3 : Int32) (s0 : Nat) (s1 : Int32) : Option (Int32 × mh_H) :=
  kO h 5 s0 <|
  (D_X5_push N h s0 s1).bind fun q1 =>
  D_X5_toldBy_135 N k9 q1 l0 l1 l2 l3
set_option maxHeartbeats 4000000 in
set_option maxRecDepth 100000 in
theorem T_X5_toldBy_53 {P : mh_E → Prop} {N d : Nat} (hd : 3 ≤ d) {z : (Int32 × mh_H)} {k9 : mh_H → Nat → Nat → Int32 → Int32 → Option (Int32 × mh_H)} (hk9 : ∀ (h : mh_H) (l0 : Nat) (l1 : Nat) (l2 : Int32) (l3 : Int32), k9 h l0 l1 l2 l3 = some z → mh_go P d mX5_toldBy 9 [some (.ref l0), some (.ref l1), some (.int l2), some (.int l3), none, none] [] h (some (.int z.1)) z.2) {h : mh_H} {l0 : Nat} {l1 : Nat} {l2 : Int32} {l3 : Int32} {s0 : Nat} {s1 : Int32} (hq : D_X5_toldBy_53 N k9 h l0 l1 l2 l3 s0 s1 = some z) : mh_go P d mX5_toldBy 53 [some (.ref l0), some (.ref l1), some (.int l2), some (.int l3), none, none] [.int s1, .ref s0] h (some (.int z.1)) z.2 := by
  unfold D_X5_toldBy_53 at hq
  obtain ⟨⟨hbq1, hkq1⟩, hq⟩ := mh_oi hq
  obtain ⟨q1, e1, hq⟩ := mh_ob hq
  refine st_invV (pc := 53) (ci := 5) (vs := [.int s1]) (rest := []) (st2 := []) dX5_toldBy_53 okX5_push (by decide) hkq1 hbq1 wd_558 wd_560 wp_6 pdX5_push rfl rfl rfl rfl (Nat.le_trans (by decide) hd) (Nat.le_of_ble_eq_true rfl) (T_X5_push (Nat.le_refl _) e1) rfl ?_
  refine st_goto (pc := 56) (tgt := 135) dX5_toldBy_56 (by decide) ?_
  exact T_X5_toldBy_135 hd hk9 hq
def D_X5_toldBy_83 (N : Nat) (k9 : mh_H → Nat → Nat → Int32 → Int32 → Option (Int32 × mh_H)) (h : mh_H) (l0 : Nat) (l1 : Nat) (l3 : Int32) (s0 : Int32) : Option (Int32 × mh_H) :=
  D_X5_toldBy_135 N k9 h l0 l1 s0 l3
set_option maxHeartbeats 4000000 in
set_option maxRecDepth 100000 in
theorem T_X5_toldBy_83 {P : mh_E → Prop} {N d : Nat} (hd : 3 ≤ d) {z : (Int32 × mh_H)} {k9 : mh_H → Nat → Nat → Int32 → Int32 → Option (Int32 × mh_H)} (hk9 : ∀ (h : mh_H) (l0 : Nat) (l1 : Nat) (l2 : Int32) (l3 : Int32), k9 h l0 l1 l2 l3 = some z → mh_go P d mX5_toldBy 9 [some (.ref l0), some (.ref l1), some (.int l2), some (.int l3), none, none] [] h (some (.int z.1)) z.2) {h : mh_H} {l0 : Nat} {l1 : Nat} {l3 : Int32} {s0 : Int32} (hq : D_X5_toldBy_83 N k9 h l0 l1 l3 s0 = some z) : mh_go P d mX5_toldBy 83 [some (.ref l0), some (.ref l1), none, some (.int l3), none, none] [.int s0] h (some (.int z.1)) z.2 := by
  unfold D_X5_toldBy_83 at hq
  refine st_istore_n (pc := 83) (lv' := [some (.ref l0), some (.ref l1), some (.int s0), some (.int l3), none, none]) dX5_toldBy_83 rfl (by decide) rfl ?_
  refine st_goto (pc := 84) (tgt := 135) dX5_toldBy_84 (by decide) ?_
  exact T_X5_toldBy_135 hd hk9 hq
def D_X5_toldBy_82 (N : Nat) (k9 : mh_H → Nat → Nat → Int32 → Int32 → Option (Int32 × mh_H)) (h : mh_H) (l0 : Nat) (l1 : Nat) (l3 : Int32) : Option (Int32 × mh_H) :=
  D_X5_toldBy_83 N k9 h l0 l1 l3 (0 : Int32)
set_option maxHeartbeats 4000000 in
set_option maxRecDepth 100000 in
theorem T_X5_toldBy_82 {P : mh_E → Prop} {N d : Nat} (hd : 3 ≤ d) {z : (Int32 × mh_H)} {k9 : mh_H → Nat → Nat → Int32 → Int32 → Option (Int32 × mh_H)} (hk9 : ∀ (h : mh_H) (l0 : Nat) (l1 : Nat) (l2 : Int32) (l3 : Int32), k9 h l0 l1 l2 l3 = some z → mh_go P d mX5_toldBy 9 [some (.ref l0), some (.ref l1), some (.int l2), some (.int l3), none, none] [] h (some (.int z.1)) z.2) {h : mh_H} {l0 : Nat} {l1 : Nat} {l3 : Int32} (hq : D_X5_toldBy_82 N k9 h l0 l1 l3 = some z) : mh_go P d mX5_toldBy 82 [some (.ref l0), some (.ref l1), none, some (.int l3), none, none] [] h (some (.int z.1)) z.2 := by
  unfold D_X5_toldBy_82 at hq
  refine st_iconst (pc := 82) (v := (0 : Int32)) dX5_toldBy_82 rfl ?_
  exact T_X5_toldBy_83 hd hk9 hq
def D_X5_toldBy_9 (N : Nat) : Nat → mh_H → Nat → Nat → Int32 → Int32 → Option (Int32 × mh_H)
  | 0, _, _, _, _, _ => none
  | F + 1, h, l0, l1, l2, l3 =>
    (gI h 6 l1 1).bind fun v1 =>
    if v1 ≤ l3 then (some ((0 : Int32), h))
    else (kO h 6 l1 <|
    (D_X6_get N h l1 l3).bind fun q2 =>
    if q2.1 < 0 then (if q2.1 = (-38 : Int32) then (kO q2.2 5 l0 <|
    (D_X5_pop N q2.2 l0).bind fun q3 =>
    if q3.1 = (1 : Int32) then (if l2 = 0 then (D_X5_toldBy_82 N (D_X5_toldBy_9 N F) q3.2 l0 l1 l3)
    else (D_X5_toldBy_83 N (D_X5_toldBy_9 N F) q3.2 l0 l1 l3 (1 : Int32)))
    else (D_X5_toldBy_82 N (D_X5_toldBy_9 N F) q3.2 l0 l1 l3))
    else (if q2.1 = (-59 : Int32) then (if l2 = 0 then ((pI q2.2 5 l0 3 (0 : Int32)).bind fun h3 =>
    D_X5_toldBy_135 N (D_X5_toldBy_9 N F) h3 l0 l1 (1 : Int32) l3)
    else (kO q2.2 5 l0 <|
    (D_X5_pop N q2.2 l0).bind fun q3 =>
    some (q3.1, q3.2)))
    else (kO q2.2 5 l0 <|
    (D_X5_pop N q2.2 l0).bind fun q3 =>
    kO q3.2 5 l0 <|
    (D_X5_pop N q3.2 l0).bind fun q4 =>
    (D_X5_workOut N q4.2 q4.1 (-q2.1) q3.1).bind fun q5 =>
    kO q5.2 5 l0 <|
    (D_X5_push N q5.2 l0 q5.1).bind fun q6 =>
    D_X5_toldBy_135 N (D_X5_toldBy_9 N F) q6 l0 l1 l2 l3)))
    else (if (1000 : Int32) ≤ q2.1 then (kO q2.2 5 l0 <|
    (D_X5_valueOf N q2.2 l0 (q2.1 - (1000 : Int32))).bind fun q3 =>
    D_X5_toldBy_53 N (D_X5_toldBy_9 N F) q3.2 l0 l1 l2 l3 l0 q3.1)
    else (D_X5_toldBy_53 N (D_X5_toldBy_9 N F) q2.2 l0 l1 l2 l3 l0 q2.1)))
set_option maxHeartbeats 4000000 in
set_option maxRecDepth 100000 in
theorem T_X5_toldBy_9 {P : mh_E → Prop} {N d : Nat} (hd : 3 ≤ d) {z : (Int32 × mh_H)} : ∀ (F : Nat) (h : mh_H) (l0 : Nat) (l1 : Nat) (l2 : Int32) (l3 : Int32), D_X5_toldBy_9 N F h l0 l1 l2 l3 = some z → mh_go P d mX5_toldBy 9 [some (.ref l0), some (.ref l1), some (.int l2), some (.int l3), none, none] [] h (some (.int z.1)) z.2 := by
  intro F
  induction F with
  | zero => intro h l0 l1 l2 l3 hq; rw [D_X5_toldBy_9] at hq; cases hq
  | succ F ih =>
    intro h l0 l1 l2 l3 hq
    rw [D_X5_toldBy_9] at hq
    refine st_iload_n (pc := 9) dX5_toldBy_9 rfl ?_
    refine st_aload_n (pc := 10) dX5_toldBy_10 rfl ?_
    refine bd_geti (pc := 11) hq dX5_toldBy_11 fl_5_70_6 rfl (fun v1 hq => ?_)
    refine bd_icmp_ge (pc := 14) (tgt := 141) hq dX5_toldBy_14 (by decide) (fun _ hq => ?_) (fun _ hq => ?_)
    ·
      refine st_iconst (pc := 141) (v := (0 : Int32)) dX5_toldBy_141 rfl ?_
      exact bd_iret (pc := 142) hq dX5_toldBy_142 rfl
    ·
      refine st_aload_n (pc := 17) dX5_toldBy_17 rfl ?_
      refine st_iload_n (pc := 18) dX5_toldBy_18 rfl ?_
      obtain ⟨⟨hbq2, hkq2⟩, hq⟩ := mh_oi hq
      obtain ⟨q2, e2, hq⟩ := mh_ob hq
      refine st_invV (pc := 19) (ci := 6) (vs := [.int l3]) (rest := []) (st2 := [.int q2.1]) dX5_toldBy_19 okX6_get (by decide) hkq2 hbq2 wd_550 wd_551 wd_552 pdX6_get rfl rfl rfl rfl (Nat.le_trans (by decide) hd) (Nat.le_of_ble_eq_true rfl) (T_X6_get (Nat.le_refl _) e2) rfl ?_
      refine st_istore (pc := 22) (lv' := [some (.ref l0), some (.ref l1), some (.int l2), some (.int l3), some (.int q2.1), none]) dX5_toldBy_22 rfl (by decide) rfl ?_
      refine st_iload (pc := 24) dX5_toldBy_24 rfl ?_
      refine bd_if_lt (pc := 26) (tgt := 59) hq dX5_toldBy_26 (by decide) (fun _ hq => ?_) (fun _ hq => ?_)
      ·
        refine st_iload (pc := 59) dX5_toldBy_59 rfl ?_
        refine st_bipush (pc := 61) (v := (-38 : Int32)) dX5_toldBy_61 (by decide) ?_
        refine bd_icmp_ne (pc := 63) (tgt := 87) hq dX5_toldBy_63 (by decide) (fun _ hq => ?_) (fun _ hq => ?_)
        ·
          refine st_aload_n (pc := 66) dX5_toldBy_66 rfl ?_
          obtain ⟨⟨hbq3, hkq3⟩, hq⟩ := mh_oi hq
          obtain ⟨q3, e3, hq⟩ := mh_ob hq
          refine st_invV (pc := 67) (ci := 5) (vs := []) (rest := []) (st2 := [.int q3.1]) dX5_toldBy_67 okX5_pop (by decide) hkq3 hbq3 wd_562 wd_564 wp_7 pdX5_pop rfl rfl rfl rfl (Nat.le_trans (by decide) hd) (Nat.le_of_ble_eq_true rfl) (T_X5_pop (Nat.le_refl _) e3) rfl ?_
          refine st_iconst (pc := 70) (v := (1 : Int32)) dX5_toldBy_70 rfl ?_
          refine bd_icmp_ne (pc := 71) (tgt := 82) hq dX5_toldBy_71 (by decide) (fun _ hq => ?_) (fun _ hq => ?_)
          ·
            refine st_iload_n (pc := 74) dX5_toldBy_74 rfl ?_
            refine bd_if_eq (pc := 75) (tgt := 82) hq dX5_toldBy_75 (by decide) (fun _ hq => ?_) (fun _ hq => ?_)
            ·
              refine st_lesS (lv' := [some (.ref l0), some (.ref l1), none, some (.int l3), none, none]) ⟨Or.inr rfl, Or.inr rfl, Or.inl rfl, Or.inr rfl, Or.inl rfl, Or.inr rfl, trivial⟩ ?_
              exact T_X5_toldBy_82 hd ih hq
            ·
              refine st_iconst (pc := 78) (v := (1 : Int32)) dX5_toldBy_78 rfl ?_
              refine st_goto (pc := 79) (tgt := 83) dX5_toldBy_79 (by decide) ?_
              refine st_lesS (lv' := [some (.ref l0), some (.ref l1), none, some (.int l3), none, none]) ⟨Or.inr rfl, Or.inr rfl, Or.inl rfl, Or.inr rfl, Or.inl rfl, Or.inr rfl, trivial⟩ ?_
              exact T_X5_toldBy_83 hd ih hq
          ·
            refine st_lesS (lv' := [some (.ref l0), some (.ref l1), none, some (.int l3), none, none]) ⟨Or.inr rfl, Or.inr rfl, Or.inl rfl, Or.inr rfl, Or.inl rfl, Or.inr rfl, trivial⟩ ?_
            exact T_X5_toldBy_82 hd ih hq
        ·
          refine st_iload (pc := 87) dX5_toldBy_87 rfl ?_
          refine st_bipush (pc := 89) (v := (-59 : Int32)) dX5_toldBy_89 (by decide) ?_
          refine bd_icmp_eq (pc := 91) (tgt := 119) hq dX5_toldBy_91 (by decide) (fun _ hq => ?_) (fun _ hq => ?_)
          ·
            refine st_iload_n (pc := 119) dX5_toldBy_119 rfl ?_
            refine bd_if_eq (pc := 120) (tgt := 128) hq dX5_toldBy_120 (by decide) (fun _ hq => ?_) (fun _ hq => ?_)
            ·
              refine st_aload_n (pc := 128) dX5_toldBy_128 rfl ?_
              refine st_iconst (pc := 129) (v := (0 : Int32)) dX5_toldBy_129 rfl ?_
              refine bd_puti (pc := 130) hq dX5_toldBy_130 fl_5_27_5 (Or.inl rfl) rfl (fun h3 hq => ?_)
              refine st_iconst (pc := 133) (v := (1 : Int32)) dX5_toldBy_133 rfl ?_
              refine st_istore_n (pc := 134) (lv' := [some (.ref l0), some (.ref l1), some (.int (1 : Int32)), some (.int l3), some (.int q2.1), none]) dX5_toldBy_134 rfl (by decide) rfl ?_
              refine st_lesS (lv' := [some (.ref l0), some (.ref l1), some (.int (1 : Int32)), some (.int l3), none, none]) ⟨Or.inr rfl, Or.inr rfl, Or.inr rfl, Or.inr rfl, Or.inl rfl, Or.inr rfl, trivial⟩ ?_
              exact T_X5_toldBy_135 hd ih hq
            ·
              refine st_aload_n (pc := 123) dX5_toldBy_123 rfl ?_
              obtain ⟨⟨hbq3, hkq3⟩, hq⟩ := mh_oi hq
              obtain ⟨q3, e3, hq⟩ := mh_ob hq
              refine st_invV (pc := 124) (ci := 5) (vs := []) (rest := []) (st2 := [.int q3.1]) dX5_toldBy_124 okX5_pop (by decide) hkq3 hbq3 wd_562 wd_564 wp_7 pdX5_pop rfl rfl rfl rfl (Nat.le_trans (by decide) hd) (Nat.le_of_ble_eq_true rfl) (T_X5_pop (Nat.le_refl _) e3) rfl ?_
              exact bd_iret (pc := 127) hq dX5_toldBy_127 rfl
          ·
            refine st_aload_n (pc := 94) dX5_toldBy_94 rfl ?_
            obtain ⟨⟨hbq3, hkq3⟩, hq⟩ := mh_oi hq
            obtain ⟨q3, e3, hq⟩ := mh_ob hq
            refine st_invV (pc := 95) (ci := 5) (vs := []) (rest := []) (st2 := [.int q3.1]) dX5_toldBy_95 okX5_pop (by decide) hkq3 hbq3 wd_562 wd_564 wp_7 pdX5_pop rfl rfl rfl rfl (Nat.le_trans (by decide) hd) (Nat.le_of_ble_eq_true rfl) (T_X5_pop (Nat.le_refl _) e3) rfl ?_
            refine st_istore (pc := 98) (lv' := [some (.ref l0), some (.ref l1), some (.int l2), some (.int l3), some (.int q2.1), some (.int q3.1)]) dX5_toldBy_98 rfl (by decide) rfl ?_
            refine st_aload_n (pc := 100) dX5_toldBy_100 rfl ?_
            refine st_aload_n (pc := 101) dX5_toldBy_101 rfl ?_
            obtain ⟨⟨hbq4, hkq4⟩, hq⟩ := mh_oi hq
            obtain ⟨q4, e4, hq⟩ := mh_ob hq
            refine st_invV (pc := 102) (ci := 5) (vs := []) (rest := [.ref l0]) (st2 := [.int q4.1, .ref l0]) dX5_toldBy_102 okX5_pop (by decide) hkq4 hbq4 wd_562 wd_564 wp_7 pdX5_pop rfl rfl rfl rfl (Nat.le_trans (by decide) hd) (Nat.le_of_ble_eq_true rfl) (T_X5_pop (Nat.le_refl _) e4) rfl ?_
            refine st_iload (pc := 105) dX5_toldBy_105 rfl ?_
            refine st_ineg (pc := 107) dX5_toldBy_107 ?_
            refine st_iload (pc := 108) dX5_toldBy_108 rfl ?_
            obtain ⟨q5, e5, hq⟩ := mh_ob hq
            refine st_invS (pc := 110) (Y := mX5_workOut) (vs := [.int q4.1, .int (-q2.1), .int q3.1]) (rest := [.ref l0]) (st2 := [.int q5.1, .ref l0]) dX5_toldBy_110 okX5_workOut wd_566 wd_567 pdX5_workOut rfl rfl rfl rfl (Nat.le_trans (by decide) hd) (Nat.le_of_ble_eq_true rfl) (T_X5_workOut (Nat.le_refl _) e5) rfl ?_
            obtain ⟨⟨hbq6, hkq6⟩, hq⟩ := mh_oi hq
            obtain ⟨q6, e6, hq⟩ := mh_ob hq
            refine st_invV (pc := 113) (ci := 5) (vs := [.int q5.1]) (rest := []) (st2 := []) dX5_toldBy_113 okX5_push (by decide) hkq6 hbq6 wd_558 wd_560 wp_6 pdX5_push rfl rfl rfl rfl (Nat.le_trans (by decide) hd) (Nat.le_of_ble_eq_true rfl) (T_X5_push (Nat.le_refl _) e6) rfl ?_
            refine st_goto (pc := 116) (tgt := 135) dX5_toldBy_116 (by decide) ?_
            refine st_lesS (lv' := [some (.ref l0), some (.ref l1), some (.int l2), some (.int l3), none, none]) ⟨Or.inr rfl, Or.inr rfl, Or.inr rfl, Or.inr rfl, Or.inl rfl, Or.inl rfl, trivial⟩ ?_
            exact T_X5_toldBy_135 hd ih hq
      ·
        refine st_aload_n (pc := 29) dX5_toldBy_29 rfl ?_
        refine st_iload (pc := 30) dX5_toldBy_30 rfl ?_
        refine st_sipush (pc := 32) (v := (1000 : Int32)) dX5_toldBy_32 (by decide) ?_
        refine bd_icmp_ge (pc := 35) (tgt := 43) hq dX5_toldBy_35 (by decide) (fun _ hq => ?_) (fun _ hq => ?_)
        ·
          refine st_aload_n (pc := 43) dX5_toldBy_43 rfl ?_
          refine st_iload (pc := 44) dX5_toldBy_44 rfl ?_
          refine st_sipush (pc := 46) (v := (1000 : Int32)) dX5_toldBy_46 (by decide) ?_
          refine st_isub (pc := 49) dX5_toldBy_49 ?_
          obtain ⟨⟨hbq3, hkq3⟩, hq⟩ := mh_oi hq
          obtain ⟨q3, e3, hq⟩ := mh_ob hq
          refine st_invV (pc := 50) (ci := 5) (vs := [.int (q2.1 - (1000 : Int32))]) (rest := [.ref l0]) (st2 := [.int q3.1, .ref l0]) dX5_toldBy_50 okX5_valueOf (by decide) hkq3 hbq3 wd_554 wd_556 wp_5 pdX5_valueOf rfl rfl rfl rfl (Nat.le_trans (by decide) hd) (Nat.le_of_ble_eq_true rfl) (T_X5_valueOf (Nat.le_refl _) e3) rfl ?_
          refine st_lesS (lv' := [some (.ref l0), some (.ref l1), some (.int l2), some (.int l3), none, none]) ⟨Or.inr rfl, Or.inr rfl, Or.inr rfl, Or.inr rfl, Or.inl rfl, Or.inr rfl, trivial⟩ ?_
          exact T_X5_toldBy_53 hd ih hq
        ·
          refine st_iload (pc := 38) dX5_toldBy_38 rfl ?_
          refine st_goto (pc := 40) (tgt := 53) dX5_toldBy_40 (by decide) ?_
          refine st_lesS (lv' := [some (.ref l0), some (.ref l1), some (.int l2), some (.int l3), none, none]) ⟨Or.inr rfl, Or.inr rfl, Or.inr rfl, Or.inr rfl, Or.inl rfl, Or.inr rfl, trivial⟩ ?_
          exact T_X5_toldBy_53 hd ih hq
def D_X5_toldBy (N : Nat) (h : mh_H) (l0 : Nat) (l1 : Nat) : Option (Int32 × mh_H) :=
  (pI h 5 l0 3 (0 : Int32)).bind fun h1 =>
  D_X5_toldBy_9 N N h1 l0 l1 (1 : Int32) (0 : Int32)
set_option maxHeartbeats 4000000 in
set_option maxRecDepth 100000 in
theorem T_X5_toldBy {P : mh_E → Prop} {N d : Nat} (hd : 3 ≤ d) {z : (Int32 × mh_H)} {h : mh_H} {l0 : Nat} {l1 : Nat} (hq : D_X5_toldBy N h l0 l1 = some z) : mh_go P d mX5_toldBy 0 [some (.ref l0), some (.ref l1), none, none, none, none] [] h (some (.int z.1)) z.2 := by
  unfold D_X5_toldBy at hq
  refine st_aload_n (pc := 0) dX5_toldBy_0 rfl ?_
  refine st_iconst (pc := 1) (v := (0 : Int32)) dX5_toldBy_1 rfl ?_
  refine bd_puti (pc := 2) hq dX5_toldBy_2 fl_5_27_5 (Or.inl rfl) rfl (fun h1 hq => ?_)
  refine st_iconst (pc := 5) (v := (1 : Int32)) dX5_toldBy_5 rfl ?_
  refine st_istore_n (pc := 6) (lv' := [some (.ref l0), some (.ref l1), some (.int (1 : Int32)), none, none, none]) dX5_toldBy_6 rfl (by decide) rfl ?_
  refine st_iconst (pc := 7) (v := (0 : Int32)) dX5_toldBy_7 rfl ?_
  refine st_istore_n (pc := 8) (lv' := [some (.ref l0), some (.ref l1), some (.int (1 : Int32)), some (.int (0 : Int32)), none, none]) dX5_toldBy_8 rfl (by decide) rfl ?_
  exact T_X5_toldBy_9 hd N _ _ _ _ _ hq
-- HoleWater$World.rainOn(ILHoleWater$Water;LHoleWater$Reader;)I
theorem dX10_rainOn_63 : decode cX10_rainOn 63 = .ok (.iastore, 1) := by decide +kernel
theorem dX10_rainOn_64 : decode cX10_rainOn 64 = .ok (.aload_n 3, 1) := by decide +kernel
theorem dX10_rainOn_65 : decode cX10_rainOn 65 = .ok (.aload_n 0, 1) := by decide +kernel
theorem dX10_rainOn_66 : decode cX10_rainOn 66 = .ok (.getfield 60, 3) := by decide +kernel
theorem dX10_rainOn_69 : decode cX10_rainOn 69 = .ok (.invokevirtual 125, 3) := by decide +kernel
theorem dX10_rainOn_72 : decode cX10_rainOn 72 = .ok (.iconst 0, 1) := by decide +kernel
theorem dX10_rainOn_73 : decode cX10_rainOn 73 = .ok (.sipush 999, 3) := by decide +kernel
theorem dX10_rainOn_76 : decode cX10_rainOn 76 = .ok (.invokestatic 129, 3) := by decide +kernel
theorem dX10_rainOn_79 : decode cX10_rainOn 79 = .ok (.ireturn, 1) := by decide +kernel
theorem dX10_rainOn_0 : decode cX10_rainOn 0 = .ok (.aload_n 0, 1) := by decide +kernel
theorem dX10_rainOn_1 : decode cX10_rainOn 1 = .ok (.getfield 60, 3) := by decide +kernel
theorem dX10_rainOn_4 : decode cX10_rainOn 4 = .ok (.getfield 113, 3) := by decide +kernel
theorem dX10_rainOn_7 : decode cX10_rainOn 7 = .ok (.ifCond .ne 6, 3) := by decide +kernel
theorem dX10_rainOn_10 : decode cX10_rainOn 10 = .ok (.bipush 10, 2) := by decide +kernel
theorem dX10_rainOn_12 : decode cX10_rainOn 12 = .ok (.ireturn, 1) := by decide +kernel
theorem dX10_rainOn_13 : decode cX10_rainOn 13 = .ok (.aload_n 3, 1) := by decide +kernel
theorem dX10_rainOn_14 : decode cX10_rainOn 14 = .ok (.getfield 116, 3) := by decide +kernel
theorem dX10_rainOn_17 : decode cX10_rainOn 17 = .ok (.iconst 0, 1) := by decide +kernel
theorem dX10_rainOn_18 : decode cX10_rainOn 18 = .ok (.aload_n 2, 1) := by decide +kernel
theorem dX10_rainOn_19 : decode cX10_rainOn 19 = .ok (.getfield 102, 3) := by decide +kernel
theorem dX10_rainOn_22 : decode cX10_rainOn 22 = .ok (.bipush 24, 2) := by decide +kernel
theorem dX10_rainOn_24 : decode cX10_rainOn 24 = .ok (.irem, 1) := by decide +kernel
theorem dX10_rainOn_25 : decode cX10_rainOn 25 = .ok (.iastore, 1) := by decide +kernel
theorem dX10_rainOn_26 : decode cX10_rainOn 26 = .ok (.aload_n 3, 1) := by decide +kernel
theorem dX10_rainOn_27 : decode cX10_rainOn 27 = .ok (.getfield 116, 3) := by decide +kernel
theorem dX10_rainOn_30 : decode cX10_rainOn 30 = .ok (.iconst 1, 1) := by decide +kernel
theorem dX10_rainOn_31 : decode cX10_rainOn 31 = .ok (.aload_n 2, 1) := by decide +kernel
theorem dX10_rainOn_32 : decode cX10_rainOn 32 = .ok (.getfield 102, 3) := by decide +kernel
theorem dX10_rainOn_35 : decode cX10_rainOn 35 = .ok (.bipush 24, 2) := by decide +kernel
theorem dX10_rainOn_37 : decode cX10_rainOn 37 = .ok (.idiv, 1) := by decide +kernel
theorem dX10_rainOn_38 : decode cX10_rainOn 38 = .ok (.iastore, 1) := by decide +kernel
theorem dX10_rainOn_39 : decode cX10_rainOn 39 = .ok (.aload_n 3, 1) := by decide +kernel
theorem dX10_rainOn_40 : decode cX10_rainOn 40 = .ok (.getfield 116, 3) := by decide +kernel
theorem dX10_rainOn_43 : decode cX10_rainOn 43 = .ok (.iconst 2, 1) := by decide +kernel
theorem dX10_rainOn_44 : decode cX10_rainOn 44 = .ok (.iload_n 1, 1) := by decide +kernel
theorem dX10_rainOn_45 : decode cX10_rainOn 45 = .ok (.iastore, 1) := by decide +kernel
theorem dX10_rainOn_46 : decode cX10_rainOn 46 = .ok (.aload_n 3, 1) := by decide +kernel
theorem dX10_rainOn_47 : decode cX10_rainOn 47 = .ok (.getfield 116, 3) := by decide +kernel
theorem dX10_rainOn_50 : decode cX10_rainOn 50 = .ok (.iconst 3, 1) := by decide +kernel
theorem dX10_rainOn_51 : decode cX10_rainOn 51 = .ok (.aload_n 2, 1) := by decide +kernel
theorem dX10_rainOn_52 : decode cX10_rainOn 52 = .ok (.getfield 121, 3) := by decide +kernel
theorem dX10_rainOn_55 : decode cX10_rainOn 55 = .ok (.ifCond .eq 7, 3) := by decide +kernel
theorem dX10_rainOn_62 : decode cX10_rainOn 62 = .ok (.iconst 0, 1) := by decide +kernel
theorem dX10_rainOn_58 : decode cX10_rainOn 58 = .ok (.iconst 1, 1) := by decide +kernel
theorem dX10_rainOn_59 : decode cX10_rainOn 59 = .ok (.goto 4, 3) := by decide +kernel
def D_X10_rainOn_63 (N : Nat) (h : mh_H) (l0 : Nat) (l3 : Nat) (s0 : Nat) (s1 : Int32) (s2 : Int32) : Option (Int32 × mh_H) :=
  (uI h s0 s1 s2).bind fun h1 =>
  (gR h1 10 l0 10).bind fun v2 =>
  kO h1 5 l3 <|
  (D_X5_toldBy N h1 l3 v2).bind fun q3 =>
  (D_X11_held N q3.2 q3.1 (0 : Int32) (999 : Int32)).bind fun q4 =>
  some (q4.1, q4.2)
set_option maxHeartbeats 4000000 in
set_option maxRecDepth 100000 in
theorem T_X10_rainOn_63 {P : mh_E → Prop} {N d : Nat} (hd : 4 ≤ d) {z : (Int32 × mh_H)} {h : mh_H} {l0 : Nat} {l3 : Nat} {s0 : Nat} {s1 : Int32} {s2 : Int32} (hq : D_X10_rainOn_63 N h l0 l3 s0 s1 s2 = some z) : mh_go P d mX10_rainOn 63 [some (.ref l0), none, none, some (.ref l3)] [.int s2, .int s1, .ref s0] h (some (.int z.1)) z.2 := by
  unfold D_X10_rainOn_63 at hq
  refine bd_iast (pc := 63) hq dX10_rainOn_63 (fun h1 hq => ?_)
  refine st_aload_n (pc := 64) dX10_rainOn_64 rfl ?_
  refine st_aload_n (pc := 65) dX10_rainOn_65 rfl ?_
  refine bd_getr (pc := 66) hq dX10_rainOn_66 fl_10_60_10 rfl (fun v2 hq => ?_)
  obtain ⟨⟨hbq3, hkq3⟩, hq⟩ := mh_oi hq
  obtain ⟨q3, e3, hq⟩ := mh_ob hq
  refine st_invV (pc := 69) (ci := 5) (vs := [.ref v2]) (rest := []) (st2 := [.int q3.1]) dX10_rainOn_69 okX5_toldBy (by decide) hkq3 hbq3 wd_546 wd_547 wd_548 pdX5_toldBy rfl rfl rfl rfl (Nat.le_trans (by decide) hd) (Nat.le_of_ble_eq_true rfl) (T_X5_toldBy (Nat.le_refl _) e3) rfl ?_
  refine st_iconst (pc := 72) (v := (0 : Int32)) dX10_rainOn_72 rfl ?_
  refine st_sipush (pc := 73) (v := (999 : Int32)) dX10_rainOn_73 (by decide) ?_
  obtain ⟨q4, e4, hq⟩ := mh_ob hq
  refine st_invSN (pc := 76) (Y := mX11_held) (vs := [.int q3.1, .int (0 : Int32), .int (999 : Int32)]) (rest := []) (st2 := [.int q4.1]) dX10_rainOn_76 okX11_held wn_570 wd_571 pdX11_held rfl rfl rfl rfl (Nat.le_trans (by decide) hd) (Nat.le_of_ble_eq_true rfl) (T_X11_held (Nat.le_refl _) e4) rfl ?_
  exact bd_iret (pc := 79) hq dX10_rainOn_79 rfl
def D_X10_rainOn (N : Nat) (h : mh_H) (l0 : Nat) (l1 : Int32) (l2 : Nat) (l3 : Nat) : Option (Int32 × mh_H) :=
  (gR h 10 l0 10).bind fun v1 =>
  (gI h 6 v1 1).bind fun v2 =>
  if v2 = 0 then (some ((10 : Int32), h))
  else ((gR h 5 l3 0).bind fun v3 =>
  (gI h 8 l2 0).bind fun v4 =>
  dN (24 : Int32) <|
  (uI h v3 (0 : Int32) (v4 - v4 / (24 : Int32) * (24 : Int32))).bind fun h5 =>
  (gR h5 5 l3 0).bind fun v6 =>
  (gI h5 8 l2 0).bind fun v7 =>
  dN (24 : Int32) <|
  (uI h5 v6 (1 : Int32) (v7 / (24 : Int32))).bind fun h8 =>
  (gR h8 5 l3 0).bind fun v9 =>
  (uI h8 v9 (2 : Int32) l1).bind fun h10 =>
  (gR h10 5 l3 0).bind fun v11 =>
  (gI h10 8 l2 1).bind fun v12 =>
  if v12 = 0 then (D_X10_rainOn_63 N h10 l0 l3 v11 (3 : Int32) (0 : Int32))
  else (D_X10_rainOn_63 N h10 l0 l3 v11 (3 : Int32) (1 : Int32)))
set_option maxHeartbeats 4000000 in
set_option maxRecDepth 100000 in
theorem T_X10_rainOn {P : mh_E → Prop} {N d : Nat} (hd : 4 ≤ d) {z : (Int32 × mh_H)} {h : mh_H} {l0 : Nat} {l1 : Int32} {l2 : Nat} {l3 : Nat} (hq : D_X10_rainOn N h l0 l1 l2 l3 = some z) : mh_go P d mX10_rainOn 0 [some (.ref l0), some (.int l1), some (.ref l2), some (.ref l3)] [] h (some (.int z.1)) z.2 := by
  unfold D_X10_rainOn at hq
  refine st_aload_n (pc := 0) dX10_rainOn_0 rfl ?_
  refine bd_getr (pc := 1) hq dX10_rainOn_1 fl_10_60_10 rfl (fun v1 hq => ?_)
  refine bd_geti (pc := 4) hq dX10_rainOn_4 fl_10_113_6 rfl (fun v2 hq => ?_)
  refine bd_if_ne (pc := 7) (tgt := 13) hq dX10_rainOn_7 (by decide) (fun _ hq => ?_) (fun _ hq => ?_)
  ·
    refine st_bipush (pc := 10) (v := (10 : Int32)) dX10_rainOn_10 (by decide) ?_
    exact bd_iret (pc := 12) hq dX10_rainOn_12 rfl
  ·
    refine st_aload_n (pc := 13) dX10_rainOn_13 rfl ?_
    refine bd_getr (pc := 14) hq dX10_rainOn_14 fl_10_116_5 rfl (fun v3 hq => ?_)
    refine st_iconst (pc := 17) (v := (0 : Int32)) dX10_rainOn_17 rfl ?_
    refine st_aload_n (pc := 18) dX10_rainOn_18 rfl ?_
    refine bd_geti (pc := 19) hq dX10_rainOn_19 fl_10_102_8 rfl (fun v4 hq => ?_)
    refine st_bipush (pc := 22) (v := (24 : Int32)) dX10_rainOn_22 (by decide) ?_
    refine bd_irem (pc := 24) hq dX10_rainOn_24 (fun hq => ?_)
    refine bd_iast (pc := 25) hq dX10_rainOn_25 (fun h5 hq => ?_)
    refine st_aload_n (pc := 26) dX10_rainOn_26 rfl ?_
    refine bd_getr (pc := 27) hq dX10_rainOn_27 fl_10_116_5 rfl (fun v6 hq => ?_)
    refine st_iconst (pc := 30) (v := (1 : Int32)) dX10_rainOn_30 rfl ?_
    refine st_aload_n (pc := 31) dX10_rainOn_31 rfl ?_
    refine bd_geti (pc := 32) hq dX10_rainOn_32 fl_10_102_8 rfl (fun v7 hq => ?_)
    refine st_bipush (pc := 35) (v := (24 : Int32)) dX10_rainOn_35 (by decide) ?_
    refine bd_idiv (pc := 37) hq dX10_rainOn_37 (fun hq => ?_)
    refine bd_iast (pc := 38) hq dX10_rainOn_38 (fun h8 hq => ?_)
    refine st_aload_n (pc := 39) dX10_rainOn_39 rfl ?_
    refine bd_getr (pc := 40) hq dX10_rainOn_40 fl_10_116_5 rfl (fun v9 hq => ?_)
    refine st_iconst (pc := 43) (v := (2 : Int32)) dX10_rainOn_43 rfl ?_
    refine st_iload_n (pc := 44) dX10_rainOn_44 rfl ?_
    refine bd_iast (pc := 45) hq dX10_rainOn_45 (fun h10 hq => ?_)
    refine st_aload_n (pc := 46) dX10_rainOn_46 rfl ?_
    refine bd_getr (pc := 47) hq dX10_rainOn_47 fl_10_116_5 rfl (fun v11 hq => ?_)
    refine st_iconst (pc := 50) (v := (3 : Int32)) dX10_rainOn_50 rfl ?_
    refine st_aload_n (pc := 51) dX10_rainOn_51 rfl ?_
    refine bd_geti (pc := 52) hq dX10_rainOn_52 fl_10_121_8 rfl (fun v12 hq => ?_)
    refine bd_if_eq (pc := 55) (tgt := 62) hq dX10_rainOn_55 (by decide) (fun _ hq => ?_) (fun _ hq => ?_)
    ·
      refine st_iconst (pc := 62) (v := (0 : Int32)) dX10_rainOn_62 rfl ?_
      refine st_lesS (lv' := [some (.ref l0), none, none, some (.ref l3)]) ⟨Or.inr rfl, Or.inl rfl, Or.inl rfl, Or.inr rfl, trivial⟩ ?_
      exact T_X10_rainOn_63 hd hq
    ·
      refine st_iconst (pc := 58) (v := (1 : Int32)) dX10_rainOn_58 rfl ?_
      refine st_goto (pc := 59) (tgt := 63) dX10_rainOn_59 (by decide) ?_
      refine st_lesS (lv' := [some (.ref l0), none, none, some (.ref l3)]) ⟨Or.inr rfl, Or.inl rfl, Or.inl rfl, Or.inr rfl, trivial⟩ ?_
      exact T_X10_rainOn_63 hd hq
-- HoleWater$Water.passHour(LHoleWater$World;LHoleWater$Reader;)V
theorem dX8_passHour_64 : decode cX8_passHour 64 = .ok (.iinc 3 1, 3) := by decide +kernel
theorem dX8_passHour_67 : decode cX8_passHour 67 = .ok (.goto (-38), 3) := by decide +kernel
theorem dX8_passHour_128 : decode cX8_passHour 128 = .ok (.iinc 3 1, 3) := by decide +kernel
theorem dX8_passHour_131 : decode cX8_passHour 131 = .ok (.goto (-59), 3) := by decide +kernel
theorem dX8_passHour_105 : decode cX8_passHour 105 = .ok (.invokevirtual 88, 3) := by decide +kernel
theorem dX8_passHour_108 : decode cX8_passHour 108 = .ok (.goto 20, 3) := by decide +kernel
theorem dX8_passHour_72 : decode cX8_passHour 72 = .ok (.iload_n 3, 1) := by decide +kernel
theorem dX8_passHour_73 : decode cX8_passHour 73 = .ok (.aload_n 1, 1) := by decide +kernel
theorem dX8_passHour_74 : decode cX8_passHour 74 = .ok (.getfield 73, 3) := by decide +kernel
theorem dX8_passHour_77 : decode cX8_passHour 77 = .ok (.if_icmp .ge 57, 3) := by decide +kernel
theorem dX8_passHour_134 : decode cX8_passHour 134 = .ok (.aload_n 0, 1) := by decide +kernel
theorem dX8_passHour_135 : decode cX8_passHour 135 = .ok (.dup, 1) := by decide +kernel
theorem dX8_passHour_136 : decode cX8_passHour 136 = .ok (.getfield 9, 3) := by decide +kernel
theorem dX8_passHour_139 : decode cX8_passHour 139 = .ok (.iconst 1, 1) := by decide +kernel
theorem dX8_passHour_140 : decode cX8_passHour 140 = .ok (.iadd, 1) := by decide +kernel
theorem dX8_passHour_141 : decode cX8_passHour 141 = .ok (.putfield 9, 3) := by decide +kernel
theorem dX8_passHour_144 : decode cX8_passHour 144 = .ok (.return_, 1) := by decide +kernel
theorem dX8_passHour_80 : decode cX8_passHour 80 = .ok (.aload_n 1, 1) := by decide +kernel
theorem dX8_passHour_81 : decode cX8_passHour 81 = .ok (.iload_n 3, 1) := by decide +kernel
theorem dX8_passHour_82 : decode cX8_passHour 82 = .ok (.invokevirtual 84, 3) := by decide +kernel
theorem dX8_passHour_85 : decode cX8_passHour 85 = .ok (.ifCond .eq 26, 3) := by decide +kernel
theorem dX8_passHour_111 : decode cX8_passHour 111 = .ok (.aload_n 0, 1) := by decide +kernel
theorem dX8_passHour_112 : decode cX8_passHour 112 = .ok (.getfield 29, 3) := by decide +kernel
theorem dX8_passHour_115 : decode cX8_passHour 115 = .ok (.iload_n 3, 1) := by decide +kernel
theorem dX8_passHour_116 : decode cX8_passHour 116 = .ok (.iconst 5, 1) := by decide +kernel
theorem dX8_passHour_117 : decode cX8_passHour 117 = .ok (.imul, 1) := by decide +kernel
theorem dX8_passHour_118 : decode cX8_passHour 118 = .ok (.iaload, 1) := by decide +kernel
theorem dX8_passHour_119 : decode cX8_passHour 119 = .ok (.ifCond .le 9, 3) := by decide +kernel
theorem dX8_passHour_122 : decode cX8_passHour 122 = .ok (.aload_n 0, 1) := by decide +kernel
theorem dX8_passHour_123 : decode cX8_passHour 123 = .ok (.iload_n 3, 1) := by decide +kernel
theorem dX8_passHour_124 : decode cX8_passHour 124 = .ok (.aload_n 1, 1) := by decide +kernel
theorem dX8_passHour_125 : decode cX8_passHour 125 = .ok (.invokevirtual 92, 3) := by decide +kernel
theorem dX8_passHour_88 : decode cX8_passHour 88 = .ok (.aload_n 0, 1) := by decide +kernel
theorem dX8_passHour_89 : decode cX8_passHour 89 = .ok (.iload_n 3, 1) := by decide +kernel
theorem dX8_passHour_90 : decode cX8_passHour 90 = .ok (.aload_n 1, 1) := by decide +kernel
theorem dX8_passHour_91 : decode cX8_passHour 91 = .ok (.iload_n 3, 1) := by decide +kernel
theorem dX8_passHour_92 : decode cX8_passHour 92 = .ok (.iconst 2, 1) := by decide +kernel
theorem dX8_passHour_93 : decode cX8_passHour 93 = .ok (.invokevirtual 76, 3) := by decide +kernel
theorem dX8_passHour_96 : decode cX8_passHour 96 = .ok (.ifCond .eq 7, 3) := by decide +kernel
theorem dX8_passHour_103 : decode cX8_passHour 103 = .ok (.bipush 6, 2) := by decide +kernel
theorem dX8_passHour_99 : decode cX8_passHour 99 = .ok (.iconst 5, 1) := by decide +kernel
theorem dX8_passHour_100 : decode cX8_passHour 100 = .ok (.goto 5, 3) := by decide +kernel
theorem dX8_passHour_29 : decode cX8_passHour 29 = .ok (.iload_n 3, 1) := by decide +kernel
theorem dX8_passHour_30 : decode cX8_passHour 30 = .ok (.aload_n 1, 1) := by decide +kernel
theorem dX8_passHour_31 : decode cX8_passHour 31 = .ok (.getfield 73, 3) := by decide +kernel
theorem dX8_passHour_34 : decode cX8_passHour 34 = .ok (.if_icmp .ge 36, 3) := by decide +kernel
theorem dX8_passHour_70 : decode cX8_passHour 70 = .ok (.iconst 0, 1) := by decide +kernel
theorem dX8_passHour_71 : decode cX8_passHour 71 = .ok (.istore_n 3, 1) := by decide +kernel
theorem dX8_passHour_37 : decode cX8_passHour 37 = .ok (.aload_n 1, 1) := by decide +kernel
theorem dX8_passHour_38 : decode cX8_passHour 38 = .ok (.iload_n 3, 1) := by decide +kernel
theorem dX8_passHour_39 : decode cX8_passHour 39 = .ok (.iconst 0, 1) := by decide +kernel
theorem dX8_passHour_40 : decode cX8_passHour 40 = .ok (.invokevirtual 76, 3) := by decide +kernel
theorem dX8_passHour_43 : decode cX8_passHour 43 = .ok (.ifCond .eq 21, 3) := by decide +kernel
theorem dX8_passHour_46 : decode cX8_passHour 46 = .ok (.aload_n 0, 1) := by decide +kernel
theorem dX8_passHour_47 : decode cX8_passHour 47 = .ok (.getfield 29, 3) := by decide +kernel
theorem dX8_passHour_50 : decode cX8_passHour 50 = .ok (.iload_n 3, 1) := by decide +kernel
theorem dX8_passHour_51 : decode cX8_passHour 51 = .ok (.iconst 5, 1) := by decide +kernel
theorem dX8_passHour_52 : decode cX8_passHour 52 = .ok (.imul, 1) := by decide +kernel
theorem dX8_passHour_53 : decode cX8_passHour 53 = .ok (.dup2, 1) := by decide +kernel
theorem dX8_passHour_54 : decode cX8_passHour 54 = .ok (.iaload, 1) := by decide +kernel
theorem dX8_passHour_55 : decode cX8_passHour 55 = .ok (.aload_n 1, 1) := by decide +kernel
theorem dX8_passHour_56 : decode cX8_passHour 56 = .ok (.iload_n 3, 1) := by decide +kernel
theorem dX8_passHour_57 : decode cX8_passHour 57 = .ok (.aload_n 0, 1) := by decide +kernel
theorem dX8_passHour_58 : decode cX8_passHour 58 = .ok (.aload_n 2, 1) := by decide +kernel
theorem dX8_passHour_59 : decode cX8_passHour 59 = .ok (.invokevirtual 80, 3) := by decide +kernel
theorem dX8_passHour_62 : decode cX8_passHour 62 = .ok (.iadd, 1) := by decide +kernel
theorem dX8_passHour_63 : decode cX8_passHour 63 = .ok (.iastore, 1) := by decide +kernel
theorem dX8_passHour_2 : decode cX8_passHour 2 = .ok (.iload_n 3, 1) := by decide +kernel
theorem dX8_passHour_3 : decode cX8_passHour 3 = .ok (.aload_n 1, 1) := by decide +kernel
theorem dX8_passHour_4 : decode cX8_passHour 4 = .ok (.getfield 60, 3) := by decide +kernel
theorem dX8_passHour_7 : decode cX8_passHour 7 = .ok (.if_icmp .ge 20, 3) := by decide +kernel
theorem dX8_passHour_27 : decode cX8_passHour 27 = .ok (.iconst 0, 1) := by decide +kernel
theorem dX8_passHour_28 : decode cX8_passHour 28 = .ok (.istore_n 3, 1) := by decide +kernel
theorem dX8_passHour_10 : decode cX8_passHour 10 = .ok (.aload_n 0, 1) := by decide +kernel
theorem dX8_passHour_11 : decode cX8_passHour 11 = .ok (.iload_n 3, 1) := by decide +kernel
theorem dX8_passHour_12 : decode cX8_passHour 12 = .ok (.aload_n 1, 1) := by decide +kernel
theorem dX8_passHour_13 : decode cX8_passHour 13 = .ok (.getfield 65, 3) := by decide +kernel
theorem dX8_passHour_16 : decode cX8_passHour 16 = .ok (.iload_n 3, 1) := by decide +kernel
theorem dX8_passHour_17 : decode cX8_passHour 17 = .ok (.aaload, 1) := by decide +kernel
theorem dX8_passHour_18 : decode cX8_passHour 18 = .ok (.invokevirtual 69, 3) := by decide +kernel
theorem dX8_passHour_21 : decode cX8_passHour 21 = .ok (.iinc 3 1, 3) := by decide +kernel
theorem dX8_passHour_24 : decode cX8_passHour 24 = .ok (.goto (-22), 3) := by decide +kernel
theorem dX8_passHour_0 : decode cX8_passHour 0 = .ok (.iconst 0, 1) := by decide +kernel
theorem dX8_passHour_1 : decode cX8_passHour 1 = .ok (.istore_n 3, 1) := by decide +kernel
def D_X8_passHour_64 (N : Nat) (k29 : mh_H → Nat → Nat → Nat → Int32 → Option mh_H) (h : mh_H) (l0 : Nat) (l1 : Nat) (l2 : Nat) (l3 : Int32) : Option mh_H :=
  k29 h l0 l1 l2 (l3 + Int32.ofInt (1))
set_option maxHeartbeats 4000000 in
set_option maxRecDepth 100000 in
theorem T_X8_passHour_64 {P : mh_E → Prop} {N d : Nat} (hd : 6 ≤ d) {z : mh_H} {k29 : mh_H → Nat → Nat → Nat → Int32 → Option mh_H} (hk29 : ∀ (h : mh_H) (l0 : Nat) (l1 : Nat) (l2 : Nat) (l3 : Int32), k29 h l0 l1 l2 l3 = some z → mh_go P d mX8_passHour 29 [some (.ref l0), some (.ref l1), some (.ref l2), some (.int l3)] [] h none z) {h : mh_H} {l0 : Nat} {l1 : Nat} {l2 : Nat} {l3 : Int32} (hq : D_X8_passHour_64 N k29 h l0 l1 l2 l3 = some z) : mh_go P d mX8_passHour 64 [some (.ref l0), some (.ref l1), some (.ref l2), some (.int l3)] [] h none z := by
  unfold D_X8_passHour_64 at hq
  refine st_iinc (pc := 64) (lv' := [some (.ref l0), some (.ref l1), some (.ref l2), some (.int (l3 + Int32.ofInt (1)))]) dX8_passHour_64 rfl rfl (by decide) rfl ?_
  refine st_goto (pc := 67) (tgt := 29) dX8_passHour_67 (by decide) ?_
  exact hk29 _ _ _ _ _ hq
def D_X8_passHour_128 (N : Nat) (k72 : mh_H → Nat → Nat → Int32 → Option mh_H) (h : mh_H) (l0 : Nat) (l1 : Nat) (l3 : Int32) : Option mh_H :=
  k72 h l0 l1 (l3 + Int32.ofInt (1))
set_option maxHeartbeats 4000000 in
set_option maxRecDepth 100000 in
theorem T_X8_passHour_128 {P : mh_E → Prop} {N d : Nat} (hd : 6 ≤ d) {z : mh_H} {k72 : mh_H → Nat → Nat → Int32 → Option mh_H} (hk72 : ∀ (h : mh_H) (l0 : Nat) (l1 : Nat) (l3 : Int32), k72 h l0 l1 l3 = some z → mh_go P d mX8_passHour 72 [some (.ref l0), some (.ref l1), none, some (.int l3)] [] h none z) {h : mh_H} {l0 : Nat} {l1 : Nat} {l3 : Int32} (hq : D_X8_passHour_128 N k72 h l0 l1 l3 = some z) : mh_go P d mX8_passHour 128 [some (.ref l0), some (.ref l1), none, some (.int l3)] [] h none z := by
  unfold D_X8_passHour_128 at hq
  refine st_iinc (pc := 128) (lv' := [some (.ref l0), some (.ref l1), none, some (.int (l3 + Int32.ofInt (1)))]) dX8_passHour_128 rfl rfl (by decide) rfl ?_
  refine st_goto (pc := 131) (tgt := 72) dX8_passHour_131 (by decide) ?_
  exact hk72 _ _ _ _ hq
def D_X8_passHour_105 (N : Nat) (k72 : mh_H → Nat → Nat → Int32 → Option mh_H) (h : mh_H) (l0 : Nat) (l1 : Nat) (l3 : Int32) (s0 : Nat) (s1 : Int32) (s2 : Int32) : Option mh_H :=
  kO h 8 s0 <|
  (D_X8_comeOut N h s0 s1 s2).bind fun q1 =>
  D_X8_passHour_128 N k72 q1 l0 l1 l3
set_option maxHeartbeats 4000000 in
set_option maxRecDepth 100000 in
theorem T_X8_passHour_105 {P : mh_E → Prop} {N d : Nat} (hd : 6 ≤ d) {z : mh_H} {k72 : mh_H → Nat → Nat → Int32 → Option mh_H} (hk72 : ∀ (h : mh_H) (l0 : Nat) (l1 : Nat) (l3 : Int32), k72 h l0 l1 l3 = some z → mh_go P d mX8_passHour 72 [some (.ref l0), some (.ref l1), none, some (.int l3)] [] h none z) {h : mh_H} {l0 : Nat} {l1 : Nat} {l3 : Int32} {s0 : Nat} {s1 : Int32} {s2 : Int32} (hq : D_X8_passHour_105 N k72 h l0 l1 l3 s0 s1 s2 = some z) : mh_go P d mX8_passHour 105 [some (.ref l0), some (.ref l1), none, some (.int l3)] [.int s2, .int s1, .ref s0] h none z := by
  unfold D_X8_passHour_105 at hq
  obtain ⟨⟨hbq1, hkq1⟩, hq⟩ := mh_oi hq
  obtain ⟨q1, e1, hq⟩ := mh_ob hq
  refine st_invV (pc := 105) (ci := 8) (vs := [.int s1, .int s2]) (rest := []) (st2 := []) dX8_passHour_105 okX8_comeOut (by decide) hkq1 hbq1 wd_576 wd_578 wp_8 pdX8_comeOut rfl rfl rfl rfl (Nat.le_trans (by decide) hd) (Nat.le_of_ble_eq_true rfl) (T_X8_comeOut (Nat.le_refl _) e1) rfl ?_
  refine st_goto (pc := 108) (tgt := 128) dX8_passHour_108 (by decide) ?_
  exact T_X8_passHour_128 hd hk72 hq
def D_X8_passHour_72 (N : Nat) : Nat → mh_H → Nat → Nat → Int32 → Option mh_H
  | 0, _, _, _, _ => none
  | F + 1, h, l0, l1, l3 =>
    (gI h 10 l1 0).bind fun v1 =>
    if v1 ≤ l3 then ((gI h 8 l0 0).bind fun v2 =>
    (pI h 8 l0 0 (v2 + (1 : Int32))).bind fun h3 =>
    some h3)
    else (kO h 10 l1 <|
    (D_X10_isOutlet N h l1 l3).bind fun q2 =>
    if q2.1 = 0 then ((gR q2.2 8 l0 5).bind fun v3 =>
    (aI q2.2 v3 (l3 * (5 : Int32))).bind fun v4 =>
    if v4 ≤ 0 then (D_X8_passHour_128 N (D_X8_passHour_72 N F) q2.2 l0 l1 l3)
    else (kO q2.2 8 l0 <|
    (D_X8_sendOff N q2.2 l0 l3 l1).bind fun q5 =>
    D_X8_passHour_128 N (D_X8_passHour_72 N F) q5 l0 l1 l3))
    else (kO q2.2 10 l1 <|
    (D_X10_isOf N q2.2 l1 l3 (2 : Int32)).bind fun q3 =>
    if q3.1 = 0 then (D_X8_passHour_105 N (D_X8_passHour_72 N F) q3.2 l0 l1 l3 l0 l3 (6 : Int32))
    else (D_X8_passHour_105 N (D_X8_passHour_72 N F) q3.2 l0 l1 l3 l0 l3 (5 : Int32))))
set_option maxHeartbeats 4000000 in
set_option maxRecDepth 100000 in
theorem T_X8_passHour_72 {P : mh_E → Prop} {N d : Nat} (hd : 6 ≤ d) {z : mh_H} : ∀ (F : Nat) (h : mh_H) (l0 : Nat) (l1 : Nat) (l3 : Int32), D_X8_passHour_72 N F h l0 l1 l3 = some z → mh_go P d mX8_passHour 72 [some (.ref l0), some (.ref l1), none, some (.int l3)] [] h none z := by
  intro F
  induction F with
  | zero => intro h l0 l1 l3 hq; rw [D_X8_passHour_72] at hq; cases hq
  | succ F ih =>
    intro h l0 l1 l3 hq
    rw [D_X8_passHour_72] at hq
    refine st_iload_n (pc := 72) dX8_passHour_72 rfl ?_
    refine st_aload_n (pc := 73) dX8_passHour_73 rfl ?_
    refine bd_geti (pc := 74) hq dX8_passHour_74 fl_8_73_10 rfl (fun v1 hq => ?_)
    refine bd_icmp_ge (pc := 77) (tgt := 134) hq dX8_passHour_77 (by decide) (fun _ hq => ?_) (fun _ hq => ?_)
    ·
      refine st_aload_n (pc := 134) dX8_passHour_134 rfl ?_
      refine st_dup (pc := 135) dX8_passHour_135 rfl ?_
      refine bd_geti (pc := 136) hq dX8_passHour_136 fl_8_9_8 rfl (fun v2 hq => ?_)
      refine st_iconst (pc := 139) (v := (1 : Int32)) dX8_passHour_139 rfl ?_
      refine st_iadd (pc := 140) dX8_passHour_140 ?_
      refine bd_puti (pc := 141) hq dX8_passHour_141 fl_8_9_8 (Or.inl rfl) rfl (fun h3 hq => ?_)
      exact bd_vret (pc := 144) hq dX8_passHour_144 rfl
    ·
      refine st_aload_n (pc := 80) dX8_passHour_80 rfl ?_
      refine st_iload_n (pc := 81) dX8_passHour_81 rfl ?_
      obtain ⟨⟨hbq2, hkq2⟩, hq⟩ := mh_oi hq
      obtain ⟨q2, e2, hq⟩ := mh_ob hq
      refine st_invV (pc := 82) (ci := 10) (vs := [.int l3]) (rest := []) (st2 := [.int q2.1]) dX8_passHour_82 okX10_isOutlet (by decide) hkq2 hbq2 wd_575 wd_351 wd_352 pdX10_isOutlet rfl rfl rfl rfl (Nat.le_trans (by decide) hd) (Nat.le_of_ble_eq_true rfl) (T_X10_isOutlet (Nat.le_refl _) e2) rfl ?_
      refine bd_if_eq (pc := 85) (tgt := 111) hq dX8_passHour_85 (by decide) (fun _ hq => ?_) (fun _ hq => ?_)
      ·
        refine st_aload_n (pc := 111) dX8_passHour_111 rfl ?_
        refine bd_getr (pc := 112) hq dX8_passHour_112 fl_8_29_8 rfl (fun v3 hq => ?_)
        refine st_iload_n (pc := 115) dX8_passHour_115 rfl ?_
        refine st_iconst (pc := 116) (v := (5 : Int32)) dX8_passHour_116 rfl ?_
        refine st_imul (pc := 117) dX8_passHour_117 ?_
        refine bd_iald (pc := 118) hq dX8_passHour_118 (fun v4 hq => ?_)
        refine bd_if_le (pc := 119) (tgt := 128) hq dX8_passHour_119 (by decide) (fun _ hq => ?_) (fun _ hq => ?_)
        ·
          exact T_X8_passHour_128 hd ih hq
        ·
          refine st_aload_n (pc := 122) dX8_passHour_122 rfl ?_
          refine st_iload_n (pc := 123) dX8_passHour_123 rfl ?_
          refine st_aload_n (pc := 124) dX8_passHour_124 rfl ?_
          obtain ⟨⟨hbq5, hkq5⟩, hq⟩ := mh_oi hq
          obtain ⟨q5, e5, hq⟩ := mh_ob hq
          refine st_invV (pc := 125) (ci := 8) (vs := [.int l3, .ref l1]) (rest := []) (st2 := []) dX8_passHour_125 okX8_sendOff (by decide) hkq5 hbq5 wd_580 wd_582 wp_9 pdX8_sendOff rfl rfl rfl rfl (Nat.le_trans (by decide) hd) (Nat.le_of_ble_eq_true rfl) (T_X8_sendOff (Nat.le_refl _) e5) rfl ?_
          exact T_X8_passHour_128 hd ih hq
      ·
        refine st_aload_n (pc := 88) dX8_passHour_88 rfl ?_
        refine st_iload_n (pc := 89) dX8_passHour_89 rfl ?_
        refine st_aload_n (pc := 90) dX8_passHour_90 rfl ?_
        refine st_iload_n (pc := 91) dX8_passHour_91 rfl ?_
        refine st_iconst (pc := 92) (v := (2 : Int32)) dX8_passHour_92 rfl ?_
        obtain ⟨⟨hbq3, hkq3⟩, hq⟩ := mh_oi hq
        obtain ⟨q3, e3, hq⟩ := mh_ob hq
        refine st_invV (pc := 93) (ci := 10) (vs := [.int l3, .int (2 : Int32)]) (rest := [.int l3, .ref l0]) (st2 := [.int q3.1, .int l3, .ref l0]) dX8_passHour_93 okX10_isOf (by decide) hkq3 hbq3 wd_541 wd_355 wd_356 pdX10_isOf rfl rfl rfl rfl (Nat.le_trans (by decide) hd) (Nat.le_of_ble_eq_true rfl) (T_X10_isOf (Nat.le_refl _) e3) rfl ?_
        refine bd_if_eq (pc := 96) (tgt := 103) hq dX8_passHour_96 (by decide) (fun _ hq => ?_) (fun _ hq => ?_)
        ·
          refine st_bipush (pc := 103) (v := (6 : Int32)) dX8_passHour_103 (by decide) ?_
          exact T_X8_passHour_105 hd ih hq
        ·
          refine st_iconst (pc := 99) (v := (5 : Int32)) dX8_passHour_99 rfl ?_
          refine st_goto (pc := 100) (tgt := 105) dX8_passHour_100 (by decide) ?_
          exact T_X8_passHour_105 hd ih hq
def D_X8_passHour_29 (N : Nat) : Nat → mh_H → Nat → Nat → Nat → Int32 → Option mh_H
  | 0, _, _, _, _, _ => none
  | F + 1, h, l0, l1, l2, l3 =>
    (gI h 10 l1 0).bind fun v1 =>
    if v1 ≤ l3 then (D_X8_passHour_72 N N h l0 l1 (0 : Int32))
    else (kO h 10 l1 <|
    (D_X10_isOf N h l1 l3 (0 : Int32)).bind fun q2 =>
    if q2.1 = 0 then (D_X8_passHour_64 N (D_X8_passHour_29 N F) q2.2 l0 l1 l2 l3)
    else ((gR q2.2 8 l0 5).bind fun v3 =>
    (aI q2.2 v3 (l3 * (5 : Int32))).bind fun v4 =>
    kO q2.2 10 l1 <|
    (D_X10_rainOn N q2.2 l1 l3 l0 l2).bind fun q5 =>
    (uI q5.2 v3 (l3 * (5 : Int32)) (v4 + q5.1)).bind fun h6 =>
    D_X8_passHour_64 N (D_X8_passHour_29 N F) h6 l0 l1 l2 l3))
set_option maxHeartbeats 4000000 in
set_option maxRecDepth 100000 in
theorem T_X8_passHour_29 {P : mh_E → Prop} {N d : Nat} (hd : 6 ≤ d) {z : mh_H} : ∀ (F : Nat) (h : mh_H) (l0 : Nat) (l1 : Nat) (l2 : Nat) (l3 : Int32), D_X8_passHour_29 N F h l0 l1 l2 l3 = some z → mh_go P d mX8_passHour 29 [some (.ref l0), some (.ref l1), some (.ref l2), some (.int l3)] [] h none z := by
  intro F
  induction F with
  | zero => intro h l0 l1 l2 l3 hq; rw [D_X8_passHour_29] at hq; cases hq
  | succ F ih =>
    intro h l0 l1 l2 l3 hq
    rw [D_X8_passHour_29] at hq
    refine st_iload_n (pc := 29) dX8_passHour_29 rfl ?_
    refine st_aload_n (pc := 30) dX8_passHour_30 rfl ?_
    refine bd_geti (pc := 31) hq dX8_passHour_31 fl_8_73_10 rfl (fun v1 hq => ?_)
    refine bd_icmp_ge (pc := 34) (tgt := 70) hq dX8_passHour_34 (by decide) (fun _ hq => ?_) (fun _ hq => ?_)
    ·
      refine st_iconst (pc := 70) (v := (0 : Int32)) dX8_passHour_70 rfl ?_
      refine st_istore_n (pc := 71) (lv' := [some (.ref l0), some (.ref l1), some (.ref l2), some (.int (0 : Int32))]) dX8_passHour_71 rfl (by decide) rfl ?_
      refine st_lesS (lv' := [some (.ref l0), some (.ref l1), none, some (.int (0 : Int32))]) ⟨Or.inr rfl, Or.inr rfl, Or.inl rfl, Or.inr rfl, trivial⟩ ?_
      exact T_X8_passHour_72 hd N _ _ _ _ hq
    ·
      refine st_aload_n (pc := 37) dX8_passHour_37 rfl ?_
      refine st_iload_n (pc := 38) dX8_passHour_38 rfl ?_
      refine st_iconst (pc := 39) (v := (0 : Int32)) dX8_passHour_39 rfl ?_
      obtain ⟨⟨hbq2, hkq2⟩, hq⟩ := mh_oi hq
      obtain ⟨q2, e2, hq⟩ := mh_ob hq
      refine st_invV (pc := 40) (ci := 10) (vs := [.int l3, .int (0 : Int32)]) (rest := []) (st2 := [.int q2.1]) dX8_passHour_40 okX10_isOf (by decide) hkq2 hbq2 wd_541 wd_355 wd_356 pdX10_isOf rfl rfl rfl rfl (Nat.le_trans (by decide) hd) (Nat.le_of_ble_eq_true rfl) (T_X10_isOf (Nat.le_refl _) e2) rfl ?_
      refine bd_if_eq (pc := 43) (tgt := 64) hq dX8_passHour_43 (by decide) (fun _ hq => ?_) (fun _ hq => ?_)
      ·
        exact T_X8_passHour_64 hd ih hq
      ·
        refine st_aload_n (pc := 46) dX8_passHour_46 rfl ?_
        refine bd_getr (pc := 47) hq dX8_passHour_47 fl_8_29_8 rfl (fun v3 hq => ?_)
        refine st_iload_n (pc := 50) dX8_passHour_50 rfl ?_
        refine st_iconst (pc := 51) (v := (5 : Int32)) dX8_passHour_51 rfl ?_
        refine st_imul (pc := 52) dX8_passHour_52 ?_
        refine st_dup2 (pc := 53) dX8_passHour_53 rfl rfl ?_
        refine bd_iald (pc := 54) hq dX8_passHour_54 (fun v4 hq => ?_)
        refine st_aload_n (pc := 55) dX8_passHour_55 rfl ?_
        refine st_iload_n (pc := 56) dX8_passHour_56 rfl ?_
        refine st_aload_n (pc := 57) dX8_passHour_57 rfl ?_
        refine st_aload_n (pc := 58) dX8_passHour_58 rfl ?_
        obtain ⟨⟨hbq5, hkq5⟩, hq⟩ := mh_oi hq
        obtain ⟨q5, e5, hq⟩ := mh_ob hq
        refine st_invV (pc := 59) (ci := 10) (vs := [.int l3, .ref l0, .ref l2]) (rest := [.int v4, .int (l3 * (5 : Int32)), .ref v3]) (st2 := [.int q5.1, .int v4, .int (l3 * (5 : Int32)), .ref v3]) dX8_passHour_59 okX10_rainOn (by decide) hkq5 hbq5 wd_542 wd_543 wd_544 pdX10_rainOn rfl rfl rfl rfl (Nat.le_trans (by decide) hd) (Nat.le_of_ble_eq_true rfl) (T_X10_rainOn (Nat.le_refl _) e5) rfl ?_
        refine st_iadd (pc := 62) dX8_passHour_62 ?_
        refine bd_iast (pc := 63) hq dX8_passHour_63 (fun h6 hq => ?_)
        exact T_X8_passHour_64 hd ih hq
def D_X8_passHour_2 (N : Nat) : Nat → mh_H → Nat → Nat → Nat → Int32 → Option mh_H
  | 0, _, _, _, _, _ => none
  | F + 1, h, l0, l1, l2, l3 =>
    (gI h 10 l1 1).bind fun v1 =>
    if v1 ≤ l3 then (D_X8_passHour_29 N N h l0 l1 l2 (0 : Int32))
    else ((gR h 10 l1 6).bind fun v2 =>
    (aR h v2 l3).bind fun v3 =>
    kO h 8 l0 <|
    (D_X8_leave N h l0 l3 v3).bind fun q4 =>
    (D_X8_passHour_2 N F) q4 l0 l1 l2 (l3 + Int32.ofInt (1)))
set_option maxHeartbeats 4000000 in
set_option maxRecDepth 100000 in
theorem T_X8_passHour_2 {P : mh_E → Prop} {N d : Nat} (hd : 6 ≤ d) {z : mh_H} : ∀ (F : Nat) (h : mh_H) (l0 : Nat) (l1 : Nat) (l2 : Nat) (l3 : Int32), D_X8_passHour_2 N F h l0 l1 l2 l3 = some z → mh_go P d mX8_passHour 2 [some (.ref l0), some (.ref l1), some (.ref l2), some (.int l3)] [] h none z := by
  intro F
  induction F with
  | zero => intro h l0 l1 l2 l3 hq; rw [D_X8_passHour_2] at hq; cases hq
  | succ F ih =>
    intro h l0 l1 l2 l3 hq
    rw [D_X8_passHour_2] at hq
    refine st_iload_n (pc := 2) dX8_passHour_2 rfl ?_
    refine st_aload_n (pc := 3) dX8_passHour_3 rfl ?_
    refine bd_geti (pc := 4) hq dX8_passHour_4 fl_8_60_10 rfl (fun v1 hq => ?_)
    refine bd_icmp_ge (pc := 7) (tgt := 27) hq dX8_passHour_7 (by decide) (fun _ hq => ?_) (fun _ hq => ?_)
    ·
      refine st_iconst (pc := 27) (v := (0 : Int32)) dX8_passHour_27 rfl ?_
      refine st_istore_n (pc := 28) (lv' := [some (.ref l0), some (.ref l1), some (.ref l2), some (.int (0 : Int32))]) dX8_passHour_28 rfl (by decide) rfl ?_
      exact T_X8_passHour_29 hd N _ _ _ _ _ hq
    ·
      refine st_aload_n (pc := 10) dX8_passHour_10 rfl ?_
      refine st_iload_n (pc := 11) dX8_passHour_11 rfl ?_
      refine st_aload_n (pc := 12) dX8_passHour_12 rfl ?_
      refine bd_getr (pc := 13) hq dX8_passHour_13 fl_8_65_10 rfl (fun v2 hq => ?_)
      refine st_iload_n (pc := 16) dX8_passHour_16 rfl ?_
      refine bd_aald (pc := 17) hq dX8_passHour_17 (fun v3 hq => ?_)
      obtain ⟨⟨hbq4, hkq4⟩, hq⟩ := mh_oi hq
      obtain ⟨q4, e4, hq⟩ := mh_ob hq
      refine st_invV (pc := 18) (ci := 8) (vs := [.int l3, .ref v3]) (rest := []) (st2 := []) dX8_passHour_18 okX8_leave (by decide) hkq4 hbq4 wd_517 wd_519 wp_2 pdX8_leave rfl rfl rfl rfl (Nat.le_trans (by decide) hd) (Nat.le_of_ble_eq_true rfl) (T_X8_leave (Nat.le_refl _) e4) rfl ?_
      refine st_iinc (pc := 21) (lv' := [some (.ref l0), some (.ref l1), some (.ref l2), some (.int (l3 + Int32.ofInt (1)))]) dX8_passHour_21 rfl rfl (by decide) rfl ?_
      refine st_goto (pc := 24) (tgt := 2) dX8_passHour_24 (by decide) ?_
      exact ih _ _ _ _ _ hq
def D_X8_passHour (N : Nat) (h : mh_H) (l0 : Nat) (l1 : Nat) (l2 : Nat) : Option mh_H :=
  D_X8_passHour_2 N N h l0 l1 l2 (0 : Int32)
set_option maxHeartbeats 4000000 in
set_option maxRecDepth 100000 in
theorem T_X8_passHour {P : mh_E → Prop} {N d : Nat} (hd : 6 ≤ d) {z : mh_H} {h : mh_H} {l0 : Nat} {l1 : Nat} {l2 : Nat} (hq : D_X8_passHour N h l0 l1 l2 = some z) : mh_go P d mX8_passHour 0 [some (.ref l0), some (.ref l1), some (.ref l2), none] [] h none z := by
  unfold D_X8_passHour at hq
  refine st_iconst (pc := 0) (v := (0 : Int32)) dX8_passHour_0 rfl ?_
  refine st_istore_n (pc := 1) (lv' := [some (.ref l0), some (.ref l1), some (.ref l2), some (.int (0 : Int32))]) dX8_passHour_1 rfl (by decide) rfl ?_
  exact T_X8_passHour_2 hd N _ _ _ _ _ hq
-- HoleWater.hours(I)I
theorem dX11_hours_42 : decode cX11_hours 42 = .ok (.iload_n 2, 1) := by decide +kernel
theorem dX11_hours_43 : decode cX11_hours 43 = .ok (.iload_n 1, 1) := by decide +kernel
theorem dX11_hours_44 : decode cX11_hours 44 = .ok (.if_icmp .ge 27, 3) := by decide +kernel
theorem dX11_hours_71 : decode cX11_hours 71 = .ok (.aload_n 0, 1) := by decide +kernel
theorem dX11_hours_72 : decode cX11_hours 72 = .ok (.getfield 12, 3) := by decide +kernel
theorem dX11_hours_75 : decode cX11_hours 75 = .ok (.getfield 90, 3) := by decide +kernel
theorem dX11_hours_78 : decode cX11_hours 78 = .ok (.getfield 189, 3) := by decide +kernel
theorem dX11_hours_81 : decode cX11_hours 81 = .ok (.ireturn, 1) := by decide +kernel
theorem dX11_hours_47 : decode cX11_hours 47 = .ok (.aload_n 0, 1) := by decide +kernel
theorem dX11_hours_48 : decode cX11_hours 48 = .ok (.getfield 12, 3) := by decide +kernel
theorem dX11_hours_51 : decode cX11_hours 51 = .ok (.getfield 90, 3) := by decide +kernel
theorem dX11_hours_54 : decode cX11_hours 54 = .ok (.aload_n 0, 1) := by decide +kernel
theorem dX11_hours_55 : decode cX11_hours 55 = .ok (.getfield 12, 3) := by decide +kernel
theorem dX11_hours_58 : decode cX11_hours 58 = .ok (.aload_n 0, 1) := by decide +kernel
theorem dX11_hours_59 : decode cX11_hours 59 = .ok (.getfield 29, 3) := by decide +kernel
theorem dX11_hours_62 : decode cX11_hours 62 = .ok (.invokevirtual 192, 3) := by decide +kernel
theorem dX11_hours_65 : decode cX11_hours 65 = .ok (.iinc 2 1, 3) := by decide +kernel
theorem dX11_hours_68 : decode cX11_hours 68 = .ok (.goto (-26), 3) := by decide +kernel
theorem dX11_hours_0 : decode cX11_hours 0 = .ok (.iload_n 1, 1) := by decide +kernel
theorem dX11_hours_1 : decode cX11_hours 1 = .ok (.iconst 1, 1) := by decide +kernel
theorem dX11_hours_2 : decode cX11_hours 2 = .ok (.bipush 60, 2) := by decide +kernel
theorem dX11_hours_4 : decode cX11_hours 4 = .ok (.invokestatic 62, 3) := by decide +kernel
theorem dX11_hours_7 : decode cX11_hours 7 = .ok (.ifCond .ne 9, 3) := by decide +kernel
theorem dX11_hours_10 : decode cX11_hours 10 = .ok (.aload_n 0, 1) := by decide +kernel
theorem dX11_hours_11 : decode cX11_hours 11 = .ok (.iconst 1, 1) := by decide +kernel
theorem dX11_hours_12 : decode cX11_hours 12 = .ok (.invokevirtual 66, 3) := by decide +kernel
theorem dX11_hours_15 : decode cX11_hours 15 = .ok (.ireturn, 1) := by decide +kernel
theorem dX11_hours_16 : decode cX11_hours 16 = .ok (.aload_n 0, 1) := by decide +kernel
theorem dX11_hours_17 : decode cX11_hours 17 = .ok (.getfield 12, 3) := by decide +kernel
theorem dX11_hours_20 : decode cX11_hours 20 = .ok (.getfield 90, 3) := by decide +kernel
theorem dX11_hours_23 : decode cX11_hours 23 = .ok (.getfield 189, 3) := by decide +kernel
theorem dX11_hours_26 : decode cX11_hours 26 = .ok (.iload_n 1, 1) := by decide +kernel
theorem dX11_hours_27 : decode cX11_hours 27 = .ok (.iadd, 1) := by decide +kernel
theorem dX11_hours_28 : decode cX11_hours 28 = .ok (.sipush 999, 3) := by decide +kernel
theorem dX11_hours_31 : decode cX11_hours 31 = .ok (.if_icmp .le 9, 3) := by decide +kernel
theorem dX11_hours_40 : decode cX11_hours 40 = .ok (.iconst 0, 1) := by decide +kernel
theorem dX11_hours_41 : decode cX11_hours 41 = .ok (.istore_n 2, 1) := by decide +kernel
theorem dX11_hours_34 : decode cX11_hours 34 = .ok (.aload_n 0, 1) := by decide +kernel
theorem dX11_hours_35 : decode cX11_hours 35 = .ok (.iconst 3, 1) := by decide +kernel
theorem dX11_hours_36 : decode cX11_hours 36 = .ok (.invokevirtual 66, 3) := by decide +kernel
theorem dX11_hours_39 : decode cX11_hours 39 = .ok (.ireturn, 1) := by decide +kernel
def D_X11_hours_42 (N : Nat) : Nat → mh_H → Nat → Int32 → Int32 → Option (Int32 × mh_H)
  | 0, _, _, _, _ => none
  | F + 1, h, l0, l1, l2 =>
    if l1 ≤ l2 then ((gR h 11 l0 0).bind fun v1 =>
    (gR h 10 v1 7).bind fun v2 =>
    (gI h 8 v2 0).bind fun v3 =>
    some (v3, h))
    else ((gR h 11 l0 0).bind fun v1 =>
    (gR h 10 v1 7).bind fun v2 =>
    (gR h 11 l0 0).bind fun v3 =>
    (gR h 11 l0 3).bind fun v4 =>
    kO h 8 v2 <|
    (D_X8_passHour N h v2 v3 v4).bind fun q5 =>
    (D_X11_hours_42 N F) q5 l0 l1 (l2 + Int32.ofInt (1)))
set_option maxHeartbeats 4000000 in
set_option maxRecDepth 100000 in
theorem T_X11_hours_42 {P : mh_E → Prop} {N d : Nat} (hd : 7 ≤ d) {z : (Int32 × mh_H)} : ∀ (F : Nat) (h : mh_H) (l0 : Nat) (l1 : Int32) (l2 : Int32), D_X11_hours_42 N F h l0 l1 l2 = some z → mh_go P d mX11_hours 42 [some (.ref l0), some (.int l1), some (.int l2)] [] h (some (.int z.1)) z.2 := by
  intro F
  induction F with
  | zero => intro h l0 l1 l2 hq; rw [D_X11_hours_42] at hq; cases hq
  | succ F ih =>
    intro h l0 l1 l2 hq
    rw [D_X11_hours_42] at hq
    refine st_iload_n (pc := 42) dX11_hours_42 rfl ?_
    refine st_iload_n (pc := 43) dX11_hours_43 rfl ?_
    refine bd_icmp_ge (pc := 44) (tgt := 71) hq dX11_hours_44 (by decide) (fun _ hq => ?_) (fun _ hq => ?_)
    ·
      refine st_aload_n (pc := 71) dX11_hours_71 rfl ?_
      refine bd_getr (pc := 72) hq dX11_hours_72 fl_11_12_11 rfl (fun v1 hq => ?_)
      refine bd_getr (pc := 75) hq dX11_hours_75 fl_11_90_10 rfl (fun v2 hq => ?_)
      refine bd_geti (pc := 78) hq dX11_hours_78 fl_11_189_8 rfl (fun v3 hq => ?_)
      exact bd_iret (pc := 81) hq dX11_hours_81 rfl
    ·
      refine st_aload_n (pc := 47) dX11_hours_47 rfl ?_
      refine bd_getr (pc := 48) hq dX11_hours_48 fl_11_12_11 rfl (fun v1 hq => ?_)
      refine bd_getr (pc := 51) hq dX11_hours_51 fl_11_90_10 rfl (fun v2 hq => ?_)
      refine st_aload_n (pc := 54) dX11_hours_54 rfl ?_
      refine bd_getr (pc := 55) hq dX11_hours_55 fl_11_12_11 rfl (fun v3 hq => ?_)
      refine st_aload_n (pc := 58) dX11_hours_58 rfl ?_
      refine bd_getr (pc := 59) hq dX11_hours_59 fl_11_29_11 rfl (fun v4 hq => ?_)
      obtain ⟨⟨hbq5, hkq5⟩, hq⟩ := mh_oi hq
      obtain ⟨q5, e5, hq⟩ := mh_ob hq
      refine st_invV (pc := 62) (ci := 8) (vs := [.ref v3, .ref v4]) (rest := []) (st2 := []) dX11_hours_62 okX8_passHour (by decide) hkq5 hbq5 wd_513 wd_514 wd_515 pdX8_passHour rfl rfl rfl rfl (Nat.le_trans (by decide) hd) (Nat.le_of_ble_eq_true rfl) (T_X8_passHour (Nat.le_refl _) e5) rfl ?_
      refine st_iinc (pc := 65) (lv' := [some (.ref l0), some (.int l1), some (.int (l2 + Int32.ofInt (1)))]) dX11_hours_65 rfl rfl (by decide) rfl ?_
      refine st_goto (pc := 68) (tgt := 42) dX11_hours_68 (by decide) ?_
      exact ih _ _ _ _ hq
def D_X11_hours (N : Nat) (h : mh_H) (l0 : Nat) (l1 : Int32) : Option (Int32 × mh_H) :=
  (D_X11_within N h l1 (1 : Int32) (60 : Int32)).bind fun q1 =>
  if q1.1 = 0 then (kO q1.2 11 l0 <|
  (D_X11_error N q1.2 l0 (1 : Int32)).bind fun q2 =>
  some (q2.1, q2.2))
  else ((gR q1.2 11 l0 0).bind fun v2 =>
  (gR q1.2 10 v2 7).bind fun v3 =>
  (gI q1.2 8 v3 0).bind fun v4 =>
  if (v4 + l1) ≤ (999 : Int32) then (D_X11_hours_42 N N q1.2 l0 l1 (0 : Int32))
  else (kO q1.2 11 l0 <|
  (D_X11_error N q1.2 l0 (3 : Int32)).bind fun q5 =>
  some (q5.1, q5.2)))
set_option maxHeartbeats 4000000 in
set_option maxRecDepth 100000 in
theorem T_X11_hours {P : mh_E → Prop} {N d : Nat} (hd : 7 ≤ d) {z : (Int32 × mh_H)} {h : mh_H} {l0 : Nat} {l1 : Int32} (hq : D_X11_hours N h l0 l1 = some z) : mh_go P d mX11_hours 0 [some (.ref l0), some (.int l1), none] [] h (some (.int z.1)) z.2 := by
  unfold D_X11_hours at hq
  refine st_iload_n (pc := 0) dX11_hours_0 rfl ?_
  refine st_iconst (pc := 1) (v := (1 : Int32)) dX11_hours_1 rfl ?_
  refine st_bipush (pc := 2) (v := (60 : Int32)) dX11_hours_2 (by decide) ?_
  obtain ⟨q1, e1, hq⟩ := mh_ob hq
  refine st_invS (pc := 4) (Y := mX11_within) (vs := [.int l1, .int (1 : Int32), .int (60 : Int32)]) (rest := []) (st2 := [.int q1.1]) dX11_hours_4 okX11_within wd_323 wd_324 pdX11_within rfl rfl rfl rfl (Nat.le_trans (by decide) hd) (Nat.le_of_ble_eq_true rfl) (T_X11_within (Nat.le_refl _) e1) rfl ?_
  refine bd_if_ne (pc := 7) (tgt := 16) hq dX11_hours_7 (by decide) (fun _ hq => ?_) (fun _ hq => ?_)
  ·
    refine st_aload_n (pc := 10) dX11_hours_10 rfl ?_
    refine st_iconst (pc := 11) (v := (1 : Int32)) dX11_hours_11 rfl ?_
    obtain ⟨⟨hbq2, hkq2⟩, hq⟩ := mh_oi hq
    obtain ⟨q2, e2, hq⟩ := mh_ob hq
    refine st_invV (pc := 12) (ci := 11) (vs := [.int (1 : Int32)]) (rest := []) (st2 := [.int q2.1]) dX11_hours_12 okX11_error (by decide) hkq2 hbq2 wd_326 wd_328 wp_0 pdX11_error rfl rfl rfl rfl (Nat.le_trans (by decide) hd) (Nat.le_of_ble_eq_true rfl) (T_X11_error (Nat.le_refl _) e2) rfl ?_
    exact bd_iret (pc := 15) hq dX11_hours_15 rfl
  ·
    refine st_aload_n (pc := 16) dX11_hours_16 rfl ?_
    refine bd_getr (pc := 17) hq dX11_hours_17 fl_11_12_11 rfl (fun v2 hq => ?_)
    refine bd_getr (pc := 20) hq dX11_hours_20 fl_11_90_10 rfl (fun v3 hq => ?_)
    refine bd_geti (pc := 23) hq dX11_hours_23 fl_11_189_8 rfl (fun v4 hq => ?_)
    refine st_iload_n (pc := 26) dX11_hours_26 rfl ?_
    refine st_iadd (pc := 27) dX11_hours_27 ?_
    refine st_sipush (pc := 28) (v := (999 : Int32)) dX11_hours_28 (by decide) ?_
    refine bd_icmp_le (pc := 31) (tgt := 40) hq dX11_hours_31 (by decide) (fun _ hq => ?_) (fun _ hq => ?_)
    ·
      refine st_iconst (pc := 40) (v := (0 : Int32)) dX11_hours_40 rfl ?_
      refine st_istore_n (pc := 41) (lv' := [some (.ref l0), some (.int l1), some (.int (0 : Int32))]) dX11_hours_41 rfl (by decide) rfl ?_
      exact T_X11_hours_42 hd N _ _ _ _ hq
    ·
      refine st_aload_n (pc := 34) dX11_hours_34 rfl ?_
      refine st_iconst (pc := 35) (v := (3 : Int32)) dX11_hours_35 rfl ?_
      obtain ⟨⟨hbq5, hkq5⟩, hq⟩ := mh_oi hq
      obtain ⟨q5, e5, hq⟩ := mh_ob hq
      refine st_invV (pc := 36) (ci := 11) (vs := [.int (3 : Int32)]) (rest := []) (st2 := [.int q5.1]) dX11_hours_36 okX11_error (by decide) hkq5 hbq5 wd_326 wd_328 wp_0 pdX11_error rfl rfl rfl rfl (Nat.le_trans (by decide) hd) (Nat.le_of_ble_eq_true rfl) (T_X11_error (Nat.le_refl _) e5) rfl ?_
      exact bd_iret (pc := 39) hq dX11_hours_39 rfl
-- HoleWater$Looks.addPut(IIII)I
theorem dX1_addPut_0 : decode cX1_addPut 0 = .ok (.aload_n 0, 1) := by decide +kernel
theorem dX1_addPut_1 : decode cX1_addPut 1 = .ok (.getfield 9, 3) := by decide +kernel
theorem dX1_addPut_4 : decode cX1_addPut 4 = .ok (.bipush 40, 2) := by decide +kernel
theorem dX1_addPut_6 : decode cX1_addPut 6 = .ok (.if_icmp .lt 5, 3) := by decide +kernel
theorem dX1_addPut_11 : decode cX1_addPut 11 = .ok (.aload_n 0, 1) := by decide +kernel
theorem dX1_addPut_12 : decode cX1_addPut 12 = .ok (.getfield 9, 3) := by decide +kernel
theorem dX1_addPut_15 : decode cX1_addPut 15 = .ok (.iconst 4, 1) := by decide +kernel
theorem dX1_addPut_16 : decode cX1_addPut 16 = .ok (.imul, 1) := by decide +kernel
theorem dX1_addPut_17 : decode cX1_addPut 17 = .ok (.istore 5, 2) := by decide +kernel
theorem dX1_addPut_19 : decode cX1_addPut 19 = .ok (.aload_n 0, 1) := by decide +kernel
theorem dX1_addPut_20 : decode cX1_addPut 20 = .ok (.getfield 18, 3) := by decide +kernel
theorem dX1_addPut_23 : decode cX1_addPut 23 = .ok (.iload 5, 2) := by decide +kernel
theorem dX1_addPut_25 : decode cX1_addPut 25 = .ok (.iload_n 1, 1) := by decide +kernel
theorem dX1_addPut_26 : decode cX1_addPut 26 = .ok (.iastore, 1) := by decide +kernel
theorem dX1_addPut_27 : decode cX1_addPut 27 = .ok (.aload_n 0, 1) := by decide +kernel
theorem dX1_addPut_28 : decode cX1_addPut 28 = .ok (.getfield 18, 3) := by decide +kernel
theorem dX1_addPut_31 : decode cX1_addPut 31 = .ok (.iload 5, 2) := by decide +kernel
theorem dX1_addPut_33 : decode cX1_addPut 33 = .ok (.iconst 1, 1) := by decide +kernel
theorem dX1_addPut_34 : decode cX1_addPut 34 = .ok (.iadd, 1) := by decide +kernel
theorem dX1_addPut_35 : decode cX1_addPut 35 = .ok (.iload_n 2, 1) := by decide +kernel
theorem dX1_addPut_36 : decode cX1_addPut 36 = .ok (.iastore, 1) := by decide +kernel
theorem dX1_addPut_37 : decode cX1_addPut 37 = .ok (.aload_n 0, 1) := by decide +kernel
theorem dX1_addPut_38 : decode cX1_addPut 38 = .ok (.getfield 18, 3) := by decide +kernel
theorem dX1_addPut_41 : decode cX1_addPut 41 = .ok (.iload 5, 2) := by decide +kernel
theorem dX1_addPut_43 : decode cX1_addPut 43 = .ok (.iconst 2, 1) := by decide +kernel
theorem dX1_addPut_44 : decode cX1_addPut 44 = .ok (.iadd, 1) := by decide +kernel
theorem dX1_addPut_45 : decode cX1_addPut 45 = .ok (.iload_n 3, 1) := by decide +kernel
theorem dX1_addPut_46 : decode cX1_addPut 46 = .ok (.iastore, 1) := by decide +kernel
theorem dX1_addPut_47 : decode cX1_addPut 47 = .ok (.aload_n 0, 1) := by decide +kernel
theorem dX1_addPut_48 : decode cX1_addPut 48 = .ok (.getfield 18, 3) := by decide +kernel
theorem dX1_addPut_51 : decode cX1_addPut 51 = .ok (.iload 5, 2) := by decide +kernel
theorem dX1_addPut_53 : decode cX1_addPut 53 = .ok (.iconst 3, 1) := by decide +kernel
theorem dX1_addPut_54 : decode cX1_addPut 54 = .ok (.iadd, 1) := by decide +kernel
theorem dX1_addPut_55 : decode cX1_addPut 55 = .ok (.iload 4, 2) := by decide +kernel
theorem dX1_addPut_57 : decode cX1_addPut 57 = .ok (.iastore, 1) := by decide +kernel
theorem dX1_addPut_58 : decode cX1_addPut 58 = .ok (.aload_n 0, 1) := by decide +kernel
theorem dX1_addPut_59 : decode cX1_addPut 59 = .ok (.dup, 1) := by decide +kernel
theorem dX1_addPut_60 : decode cX1_addPut 60 = .ok (.getfield 9, 3) := by decide +kernel
theorem dX1_addPut_63 : decode cX1_addPut 63 = .ok (.iconst 1, 1) := by decide +kernel
theorem dX1_addPut_64 : decode cX1_addPut 64 = .ok (.iadd, 1) := by decide +kernel
theorem dX1_addPut_65 : decode cX1_addPut 65 = .ok (.putfield 9, 3) := by decide +kernel
theorem dX1_addPut_68 : decode cX1_addPut 68 = .ok (.aload_n 0, 1) := by decide +kernel
theorem dX1_addPut_69 : decode cX1_addPut 69 = .ok (.getfield 9, 3) := by decide +kernel
theorem dX1_addPut_72 : decode cX1_addPut 72 = .ok (.iconst 1, 1) := by decide +kernel
theorem dX1_addPut_73 : decode cX1_addPut 73 = .ok (.isub, 1) := by decide +kernel
theorem dX1_addPut_74 : decode cX1_addPut 74 = .ok (.ireturn, 1) := by decide +kernel
theorem dX1_addPut_9 : decode cX1_addPut 9 = .ok (.iconst (-1), 1) := by decide +kernel
theorem dX1_addPut_10 : decode cX1_addPut 10 = .ok (.ireturn, 1) := by decide +kernel
def D_X1_addPut (N : Nat) (h : mh_H) (l0 : Nat) (l1 : Int32) (l2 : Int32) (l3 : Int32) (l4 : Int32) : Option (Int32 × mh_H) :=
  (gI h 1 l0 0).bind fun v1 =>
  if v1 < (40 : Int32) then ((gI h 1 l0 0).bind fun v2 =>
  (gR h 1 l0 2).bind fun v3 =>
  (uI h v3 (v2 * (4 : Int32)) l1).bind fun h4 =>
  (gR h4 1 l0 2).bind fun v5 =>
  (uI h4 v5 ((v2 * (4 : Int32)) + (1 : Int32)) l2).bind fun h6 =>
  (gR h6 1 l0 2).bind fun v7 =>
  (uI h6 v7 ((v2 * (4 : Int32)) + (2 : Int32)) l3).bind fun h8 =>
  (gR h8 1 l0 2).bind fun v9 =>
  (uI h8 v9 ((v2 * (4 : Int32)) + (3 : Int32)) l4).bind fun h10 =>
  (gI h10 1 l0 0).bind fun v11 =>
  (pI h10 1 l0 0 (v11 + (1 : Int32))).bind fun h12 =>
  (gI h12 1 l0 0).bind fun v13 =>
  some (v13 - (1 : Int32), h12))
  else (some ((-1 : Int32), h))
set_option maxHeartbeats 4000000 in
set_option maxRecDepth 100000 in
theorem T_X1_addPut {P : mh_E → Prop} {N d : Nat} (hd : 1 ≤ d) {z : (Int32 × mh_H)} {h : mh_H} {l0 : Nat} {l1 : Int32} {l2 : Int32} {l3 : Int32} {l4 : Int32} (hq : D_X1_addPut N h l0 l1 l2 l3 l4 = some z) : mh_go P d mX1_addPut 0 [some (.ref l0), some (.int l1), some (.int l2), some (.int l3), some (.int l4), none] [] h (some (.int z.1)) z.2 := by
  unfold D_X1_addPut at hq
  refine st_aload_n (pc := 0) dX1_addPut_0 rfl ?_
  refine bd_geti (pc := 1) hq dX1_addPut_1 fl_1_9_1 rfl (fun v1 hq => ?_)
  refine st_bipush (pc := 4) (v := (40 : Int32)) dX1_addPut_4 (by decide) ?_
  refine bd_icmp_lt (pc := 6) (tgt := 11) hq dX1_addPut_6 (by decide) (fun _ hq => ?_) (fun _ hq => ?_)
  ·
    refine st_aload_n (pc := 11) dX1_addPut_11 rfl ?_
    refine bd_geti (pc := 12) hq dX1_addPut_12 fl_1_9_1 rfl (fun v2 hq => ?_)
    refine st_iconst (pc := 15) (v := (4 : Int32)) dX1_addPut_15 rfl ?_
    refine st_imul (pc := 16) dX1_addPut_16 ?_
    refine st_istore (pc := 17) (lv' := [some (.ref l0), some (.int l1), some (.int l2), some (.int l3), some (.int l4), some (.int (v2 * (4 : Int32)))]) dX1_addPut_17 rfl (by decide) rfl ?_
    refine st_aload_n (pc := 19) dX1_addPut_19 rfl ?_
    refine bd_getr (pc := 20) hq dX1_addPut_20 fl_1_18_1 rfl (fun v3 hq => ?_)
    refine st_iload (pc := 23) dX1_addPut_23 rfl ?_
    refine st_iload_n (pc := 25) dX1_addPut_25 rfl ?_
    refine bd_iast (pc := 26) hq dX1_addPut_26 (fun h4 hq => ?_)
    refine st_aload_n (pc := 27) dX1_addPut_27 rfl ?_
    refine bd_getr (pc := 28) hq dX1_addPut_28 fl_1_18_1 rfl (fun v5 hq => ?_)
    refine st_iload (pc := 31) dX1_addPut_31 rfl ?_
    refine st_iconst (pc := 33) (v := (1 : Int32)) dX1_addPut_33 rfl ?_
    refine st_iadd (pc := 34) dX1_addPut_34 ?_
    refine st_iload_n (pc := 35) dX1_addPut_35 rfl ?_
    refine bd_iast (pc := 36) hq dX1_addPut_36 (fun h6 hq => ?_)
    refine st_aload_n (pc := 37) dX1_addPut_37 rfl ?_
    refine bd_getr (pc := 38) hq dX1_addPut_38 fl_1_18_1 rfl (fun v7 hq => ?_)
    refine st_iload (pc := 41) dX1_addPut_41 rfl ?_
    refine st_iconst (pc := 43) (v := (2 : Int32)) dX1_addPut_43 rfl ?_
    refine st_iadd (pc := 44) dX1_addPut_44 ?_
    refine st_iload_n (pc := 45) dX1_addPut_45 rfl ?_
    refine bd_iast (pc := 46) hq dX1_addPut_46 (fun h8 hq => ?_)
    refine st_aload_n (pc := 47) dX1_addPut_47 rfl ?_
    refine bd_getr (pc := 48) hq dX1_addPut_48 fl_1_18_1 rfl (fun v9 hq => ?_)
    refine st_iload (pc := 51) dX1_addPut_51 rfl ?_
    refine st_iconst (pc := 53) (v := (3 : Int32)) dX1_addPut_53 rfl ?_
    refine st_iadd (pc := 54) dX1_addPut_54 ?_
    refine st_iload (pc := 55) dX1_addPut_55 rfl ?_
    refine bd_iast (pc := 57) hq dX1_addPut_57 (fun h10 hq => ?_)
    refine st_aload_n (pc := 58) dX1_addPut_58 rfl ?_
    refine st_dup (pc := 59) dX1_addPut_59 rfl ?_
    refine bd_geti (pc := 60) hq dX1_addPut_60 fl_1_9_1 rfl (fun v11 hq => ?_)
    refine st_iconst (pc := 63) (v := (1 : Int32)) dX1_addPut_63 rfl ?_
    refine st_iadd (pc := 64) dX1_addPut_64 ?_
    refine bd_puti (pc := 65) hq dX1_addPut_65 fl_1_9_1 (Or.inl rfl) rfl (fun h12 hq => ?_)
    refine st_aload_n (pc := 68) dX1_addPut_68 rfl ?_
    refine bd_geti (pc := 69) hq dX1_addPut_69 fl_1_9_1 rfl (fun v13 hq => ?_)
    refine st_iconst (pc := 72) (v := (1 : Int32)) dX1_addPut_72 rfl ?_
    refine st_isub (pc := 73) dX1_addPut_73 ?_
    exact bd_iret (pc := 74) hq dX1_addPut_74 rfl
  ·
    refine st_iconst (pc := 9) (v := (-1 : Int32)) dX1_addPut_9 rfl ?_
    exact bd_iret (pc := 10) hq dX1_addPut_10 rfl
-- HoleWater$World.putIn(III)I
theorem dX10_putIn_0 : decode cX10_putIn 0 = .ok (.aload_n 0, 1) := by decide +kernel
theorem dX10_putIn_1 : decode cX10_putIn 1 = .ok (.getfield 40, 3) := by decide +kernel
theorem dX10_putIn_4 : decode cX10_putIn 4 = .ok (.getfield 96, 3) := by decide +kernel
theorem dX10_putIn_7 : decode cX10_putIn 7 = .ok (.iload_n 1, 1) := by decide +kernel
theorem dX10_putIn_8 : decode cX10_putIn 8 = .ok (.iconst 5, 1) := by decide +kernel
theorem dX10_putIn_9 : decode cX10_putIn 9 = .ok (.imul, 1) := by decide +kernel
theorem dX10_putIn_10 : decode cX10_putIn 10 = .ok (.iconst 1, 1) := by decide +kernel
theorem dX10_putIn_11 : decode cX10_putIn 11 = .ok (.iadd, 1) := by decide +kernel
theorem dX10_putIn_12 : decode cX10_putIn 12 = .ok (.iload_n 2, 1) := by decide +kernel
theorem dX10_putIn_13 : decode cX10_putIn 13 = .ok (.iadd, 1) := by decide +kernel
theorem dX10_putIn_14 : decode cX10_putIn 14 = .ok (.dup2, 1) := by decide +kernel
theorem dX10_putIn_15 : decode cX10_putIn 15 = .ok (.iaload, 1) := by decide +kernel
theorem dX10_putIn_16 : decode cX10_putIn 16 = .ok (.iload_n 3, 1) := by decide +kernel
theorem dX10_putIn_17 : decode cX10_putIn 17 = .ok (.iadd, 1) := by decide +kernel
theorem dX10_putIn_18 : decode cX10_putIn 18 = .ok (.iastore, 1) := by decide +kernel
theorem dX10_putIn_19 : decode cX10_putIn 19 = .ok (.aload_n 0, 1) := by decide +kernel
theorem dX10_putIn_20 : decode cX10_putIn 20 = .ok (.getfield 40, 3) := by decide +kernel
theorem dX10_putIn_23 : decode cX10_putIn 23 = .ok (.getfield 99, 3) := by decide +kernel
theorem dX10_putIn_26 : decode cX10_putIn 26 = .ok (.iload_n 2, 1) := by decide +kernel
theorem dX10_putIn_27 : decode cX10_putIn 27 = .ok (.bipush 7, 2) := by decide +kernel
theorem dX10_putIn_29 : decode cX10_putIn 29 = .ok (.imul, 1) := by decide +kernel
theorem dX10_putIn_30 : decode cX10_putIn 30 = .ok (.iconst 0, 1) := by decide +kernel
theorem dX10_putIn_31 : decode cX10_putIn 31 = .ok (.iadd, 1) := by decide +kernel
theorem dX10_putIn_32 : decode cX10_putIn 32 = .ok (.dup2, 1) := by decide +kernel
theorem dX10_putIn_33 : decode cX10_putIn 33 = .ok (.iaload, 1) := by decide +kernel
theorem dX10_putIn_34 : decode cX10_putIn 34 = .ok (.iload_n 3, 1) := by decide +kernel
theorem dX10_putIn_35 : decode cX10_putIn 35 = .ok (.iadd, 1) := by decide +kernel
theorem dX10_putIn_36 : decode cX10_putIn 36 = .ok (.iastore, 1) := by decide +kernel
theorem dX10_putIn_37 : decode cX10_putIn 37 = .ok (.aload_n 0, 1) := by decide +kernel
theorem dX10_putIn_38 : decode cX10_putIn 38 = .ok (.getfield 47, 3) := by decide +kernel
theorem dX10_putIn_41 : decode cX10_putIn 41 = .ok (.iload_n 1, 1) := by decide +kernel
theorem dX10_putIn_42 : decode cX10_putIn 42 = .ok (.iload_n 2, 1) := by decide +kernel
theorem dX10_putIn_43 : decode cX10_putIn 43 = .ok (.iload_n 3, 1) := by decide +kernel
theorem dX10_putIn_44 : decode cX10_putIn 44 = .ok (.aload_n 0, 1) := by decide +kernel
theorem dX10_putIn_45 : decode cX10_putIn 45 = .ok (.getfield 40, 3) := by decide +kernel
theorem dX10_putIn_48 : decode cX10_putIn 48 = .ok (.getfield 102, 3) := by decide +kernel
theorem dX10_putIn_51 : decode cX10_putIn 51 = .ok (.invokevirtual 105, 3) := by decide +kernel
theorem dX10_putIn_54 : decode cX10_putIn 54 = .ok (.ireturn, 1) := by decide +kernel
def D_X10_putIn (N : Nat) (h : mh_H) (l0 : Nat) (l1 : Int32) (l2 : Int32) (l3 : Int32) : Option (Int32 × mh_H) :=
  (gR h 10 l0 7).bind fun v1 =>
  (gR h 8 v1 5).bind fun v2 =>
  (aI h v2 (((l1 * (5 : Int32)) + (1 : Int32)) + l2)).bind fun v3 =>
  (uI h v2 (((l1 * (5 : Int32)) + (1 : Int32)) + l2) (v3 + l3)).bind fun h4 =>
  (gR h4 10 l0 7).bind fun v5 =>
  (gR h4 8 v5 4).bind fun v6 =>
  (aI h4 v6 ((l2 * (7 : Int32)) + (0 : Int32))).bind fun v7 =>
  (uI h4 v6 ((l2 * (7 : Int32)) + (0 : Int32)) (v7 + l3)).bind fun h8 =>
  (gR h8 10 l0 8).bind fun v9 =>
  (gR h8 10 l0 7).bind fun v10 =>
  (gI h8 8 v10 0).bind fun v11 =>
  kO h8 1 v9 <|
  (D_X1_addPut N h8 v9 l1 l2 l3 v11).bind fun q12 =>
  some (q12.1, q12.2)
set_option maxHeartbeats 4000000 in
set_option maxRecDepth 100000 in
theorem T_X10_putIn {P : mh_E → Prop} {N d : Nat} (hd : 2 ≤ d) {z : (Int32 × mh_H)} {h : mh_H} {l0 : Nat} {l1 : Int32} {l2 : Int32} {l3 : Int32} (hq : D_X10_putIn N h l0 l1 l2 l3 = some z) : mh_go P d mX10_putIn 0 [some (.ref l0), some (.int l1), some (.int l2), some (.int l3)] [] h (some (.int z.1)) z.2 := by
  unfold D_X10_putIn at hq
  refine st_aload_n (pc := 0) dX10_putIn_0 rfl ?_
  refine bd_getr (pc := 1) hq dX10_putIn_1 fl_10_40_10 rfl (fun v1 hq => ?_)
  refine bd_getr (pc := 4) hq dX10_putIn_4 fl_10_96_8 rfl (fun v2 hq => ?_)
  refine st_iload_n (pc := 7) dX10_putIn_7 rfl ?_
  refine st_iconst (pc := 8) (v := (5 : Int32)) dX10_putIn_8 rfl ?_
  refine st_imul (pc := 9) dX10_putIn_9 ?_
  refine st_iconst (pc := 10) (v := (1 : Int32)) dX10_putIn_10 rfl ?_
  refine st_iadd (pc := 11) dX10_putIn_11 ?_
  refine st_iload_n (pc := 12) dX10_putIn_12 rfl ?_
  refine st_iadd (pc := 13) dX10_putIn_13 ?_
  refine st_dup2 (pc := 14) dX10_putIn_14 rfl rfl ?_
  refine bd_iald (pc := 15) hq dX10_putIn_15 (fun v3 hq => ?_)
  refine st_iload_n (pc := 16) dX10_putIn_16 rfl ?_
  refine st_iadd (pc := 17) dX10_putIn_17 ?_
  refine bd_iast (pc := 18) hq dX10_putIn_18 (fun h4 hq => ?_)
  refine st_aload_n (pc := 19) dX10_putIn_19 rfl ?_
  refine bd_getr (pc := 20) hq dX10_putIn_20 fl_10_40_10 rfl (fun v5 hq => ?_)
  refine bd_getr (pc := 23) hq dX10_putIn_23 fl_10_99_8 rfl (fun v6 hq => ?_)
  refine st_iload_n (pc := 26) dX10_putIn_26 rfl ?_
  refine st_bipush (pc := 27) (v := (7 : Int32)) dX10_putIn_27 (by decide) ?_
  refine st_imul (pc := 29) dX10_putIn_29 ?_
  refine st_iconst (pc := 30) (v := (0 : Int32)) dX10_putIn_30 rfl ?_
  refine st_iadd (pc := 31) dX10_putIn_31 ?_
  refine st_dup2 (pc := 32) dX10_putIn_32 rfl rfl ?_
  refine bd_iald (pc := 33) hq dX10_putIn_33 (fun v7 hq => ?_)
  refine st_iload_n (pc := 34) dX10_putIn_34 rfl ?_
  refine st_iadd (pc := 35) dX10_putIn_35 ?_
  refine bd_iast (pc := 36) hq dX10_putIn_36 (fun h8 hq => ?_)
  refine st_aload_n (pc := 37) dX10_putIn_37 rfl ?_
  refine bd_getr (pc := 38) hq dX10_putIn_38 fl_10_47_10 rfl (fun v9 hq => ?_)
  refine st_iload_n (pc := 41) dX10_putIn_41 rfl ?_
  refine st_iload_n (pc := 42) dX10_putIn_42 rfl ?_
  refine st_iload_n (pc := 43) dX10_putIn_43 rfl ?_
  refine st_aload_n (pc := 44) dX10_putIn_44 rfl ?_
  refine bd_getr (pc := 45) hq dX10_putIn_45 fl_10_40_10 rfl (fun v10 hq => ?_)
  refine bd_geti (pc := 48) hq dX10_putIn_48 fl_10_102_8 rfl (fun v11 hq => ?_)
  obtain ⟨⟨hbq12, hkq12⟩, hq⟩ := mh_oi hq
  obtain ⟨q12, e12, hq⟩ := mh_ob hq
  refine st_invV (pc := 51) (ci := 1) (vs := [.int l1, .int l2, .int l3, .int v11]) (rest := []) (st2 := [.int q12.1]) dX10_putIn_51 okX1_addPut (by decide) hkq12 hbq12 wd_624 wd_625 wd_626 pdX1_addPut rfl rfl rfl rfl (Nat.le_trans (by decide) hd) (Nat.le_of_ble_eq_true rfl) (T_X1_addPut (Nat.le_refl _) e12) rfl ?_
  exact bd_iret (pc := 54) hq dX10_putIn_54 rfl
-- HoleWater.put(III)I
theorem dX11_put_29 : decode cX11_put 29 = .ok (.aload_n 0, 1) := by decide +kernel
theorem dX11_put_30 : decode cX11_put 30 = .ok (.iconst 1, 1) := by decide +kernel
theorem dX11_put_31 : decode cX11_put 31 = .ok (.invokevirtual 66, 3) := by decide +kernel
theorem dX11_put_34 : decode cX11_put 34 = .ok (.ireturn, 1) := by decide +kernel
theorem dX11_put_0 : decode cX11_put 0 = .ok (.aload_n 0, 1) := by decide +kernel
theorem dX11_put_1 : decode cX11_put 1 = .ok (.getfield 12, 3) := by decide +kernel
theorem dX11_put_4 : decode cX11_put 4 = .ok (.iload_n 1, 1) := by decide +kernel
theorem dX11_put_5 : decode cX11_put 5 = .ok (.invokevirtual 77, 3) := by decide +kernel
theorem dX11_put_8 : decode cX11_put 8 = .ok (.ifCond .eq 21, 3) := by decide +kernel
theorem dX11_put_11 : decode cX11_put 11 = .ok (.iload_n 2, 1) := by decide +kernel
theorem dX11_put_12 : decode cX11_put 12 = .ok (.invokestatic 183, 3) := by decide +kernel
theorem dX11_put_15 : decode cX11_put 15 = .ok (.ifCond .eq 14, 3) := by decide +kernel
theorem dX11_put_18 : decode cX11_put 18 = .ok (.iload_n 3, 1) := by decide +kernel
theorem dX11_put_19 : decode cX11_put 19 = .ok (.iconst 1, 1) := by decide +kernel
theorem dX11_put_20 : decode cX11_put 20 = .ok (.sipush 9999, 3) := by decide +kernel
theorem dX11_put_23 : decode cX11_put 23 = .ok (.invokestatic 62, 3) := by decide +kernel
theorem dX11_put_26 : decode cX11_put 26 = .ok (.ifCond .ne 9, 3) := by decide +kernel
theorem dX11_put_35 : decode cX11_put 35 = .ok (.aload_n 0, 1) := by decide +kernel
theorem dX11_put_36 : decode cX11_put 36 = .ok (.getfield 12, 3) := by decide +kernel
theorem dX11_put_39 : decode cX11_put 39 = .ok (.iload_n 1, 1) := by decide +kernel
theorem dX11_put_40 : decode cX11_put 40 = .ok (.iconst 0, 1) := by decide +kernel
theorem dX11_put_41 : decode cX11_put 41 = .ok (.invokevirtual 112, 3) := by decide +kernel
theorem dX11_put_44 : decode cX11_put 44 = .ok (.ifCond .ne 9, 3) := by decide +kernel
theorem dX11_put_47 : decode cX11_put 47 = .ok (.aload_n 0, 1) := by decide +kernel
theorem dX11_put_48 : decode cX11_put 48 = .ok (.iconst 5, 1) := by decide +kernel
theorem dX11_put_49 : decode cX11_put 49 = .ok (.invokevirtual 66, 3) := by decide +kernel
theorem dX11_put_52 : decode cX11_put 52 = .ok (.ireturn, 1) := by decide +kernel
theorem dX11_put_53 : decode cX11_put 53 = .ok (.aload_n 0, 1) := by decide +kernel
theorem dX11_put_54 : decode cX11_put 54 = .ok (.getfield 12, 3) := by decide +kernel
theorem dX11_put_57 : decode cX11_put 57 = .ok (.getfield 196, 3) := by decide +kernel
theorem dX11_put_60 : decode cX11_put 60 = .ok (.getfield 200, 3) := by decide +kernel
theorem dX11_put_63 : decode cX11_put 63 = .ok (.bipush 40, 2) := by decide +kernel
theorem dX11_put_65 : decode cX11_put 65 = .ok (.if_icmp .lt 9, 3) := by decide +kernel
theorem dX11_put_74 : decode cX11_put 74 = .ok (.aload_n 0, 1) := by decide +kernel
theorem dX11_put_75 : decode cX11_put 75 = .ok (.getfield 12, 3) := by decide +kernel
theorem dX11_put_78 : decode cX11_put 78 = .ok (.iload_n 1, 1) := by decide +kernel
theorem dX11_put_79 : decode cX11_put 79 = .ok (.iload_n 2, 1) := by decide +kernel
theorem dX11_put_80 : decode cX11_put 80 = .ok (.iload_n 3, 1) := by decide +kernel
theorem dX11_put_81 : decode cX11_put 81 = .ok (.invokevirtual 205, 3) := by decide +kernel
theorem dX11_put_84 : decode cX11_put 84 = .ok (.ireturn, 1) := by decide +kernel
theorem dX11_put_68 : decode cX11_put 68 = .ok (.aload_n 0, 1) := by decide +kernel
theorem dX11_put_69 : decode cX11_put 69 = .ok (.iconst 4, 1) := by decide +kernel
theorem dX11_put_70 : decode cX11_put 70 = .ok (.invokevirtual 66, 3) := by decide +kernel
theorem dX11_put_73 : decode cX11_put 73 = .ok (.ireturn, 1) := by decide +kernel
def D_X11_put_29 (N : Nat) (h : mh_H) (l0 : Nat) : Option (Int32 × mh_H) :=
  kO h 11 l0 <|
  (D_X11_error N h l0 (1 : Int32)).bind fun q1 =>
  some (q1.1, q1.2)
set_option maxHeartbeats 4000000 in
set_option maxRecDepth 100000 in
theorem T_X11_put_29 {P : mh_E → Prop} {N d : Nat} (hd : 3 ≤ d) {z : (Int32 × mh_H)} {h : mh_H} {l0 : Nat} (hq : D_X11_put_29 N h l0 = some z) : mh_go P d mX11_put 29 [some (.ref l0), none, none, none] [] h (some (.int z.1)) z.2 := by
  unfold D_X11_put_29 at hq
  refine st_aload_n (pc := 29) dX11_put_29 rfl ?_
  refine st_iconst (pc := 30) (v := (1 : Int32)) dX11_put_30 rfl ?_
  obtain ⟨⟨hbq1, hkq1⟩, hq⟩ := mh_oi hq
  obtain ⟨q1, e1, hq⟩ := mh_ob hq
  refine st_invV (pc := 31) (ci := 11) (vs := [.int (1 : Int32)]) (rest := []) (st2 := [.int q1.1]) dX11_put_31 okX11_error (by decide) hkq1 hbq1 wd_326 wd_328 wp_0 pdX11_error rfl rfl rfl rfl (Nat.le_trans (by decide) hd) (Nat.le_of_ble_eq_true rfl) (T_X11_error (Nat.le_refl _) e1) rfl ?_
  exact bd_iret (pc := 34) hq dX11_put_34 rfl
def D_X11_put (N : Nat) (h : mh_H) (l0 : Nat) (l1 : Int32) (l2 : Int32) (l3 : Int32) : Option (Int32 × mh_H) :=
  (gR h 11 l0 0).bind fun v1 =>
  kO h 10 v1 <|
  (D_X10_isJoint N h v1 l1).bind fun q2 =>
  if q2.1 = 0 then (D_X11_put_29 N q2.2 l0)
  else ((D_X11_isColour N q2.2 l2).bind fun q3 =>
  if q3.1 = 0 then (D_X11_put_29 N q3.2 l0)
  else ((D_X11_within N q3.2 l3 (1 : Int32) (9999 : Int32)).bind fun q4 =>
  if q4.1 = 0 then (D_X11_put_29 N q4.2 l0)
  else ((gR q4.2 11 l0 0).bind fun v5 =>
  kO q4.2 10 v5 <|
  (D_X10_isOf N q4.2 v5 l1 (0 : Int32)).bind fun q6 =>
  if q6.1 = 0 then (kO q6.2 11 l0 <|
  (D_X11_error N q6.2 l0 (5 : Int32)).bind fun q7 =>
  some (q7.1, q7.2))
  else ((gR q6.2 11 l0 0).bind fun v7 =>
  (gR q6.2 10 v7 8).bind fun v8 =>
  (gI q6.2 1 v8 0).bind fun v9 =>
  if v9 < (40 : Int32) then ((gR q6.2 11 l0 0).bind fun v10 =>
  kO q6.2 10 v10 <|
  (D_X10_putIn N q6.2 v10 l1 l2 l3).bind fun q11 =>
  some (q11.1, q11.2))
  else (kO q6.2 11 l0 <|
  (D_X11_error N q6.2 l0 (4 : Int32)).bind fun q10 =>
  some (q10.1, q10.2))))))
set_option maxHeartbeats 4000000 in
set_option maxRecDepth 100000 in
theorem T_X11_put {P : mh_E → Prop} {N d : Nat} (hd : 3 ≤ d) {z : (Int32 × mh_H)} {h : mh_H} {l0 : Nat} {l1 : Int32} {l2 : Int32} {l3 : Int32} (hq : D_X11_put N h l0 l1 l2 l3 = some z) : mh_go P d mX11_put 0 [some (.ref l0), some (.int l1), some (.int l2), some (.int l3)] [] h (some (.int z.1)) z.2 := by
  unfold D_X11_put at hq
  refine st_aload_n (pc := 0) dX11_put_0 rfl ?_
  refine bd_getr (pc := 1) hq dX11_put_1 fl_11_12_11 rfl (fun v1 hq => ?_)
  refine st_iload_n (pc := 4) dX11_put_4 rfl ?_
  obtain ⟨⟨hbq2, hkq2⟩, hq⟩ := mh_oi hq
  obtain ⟨q2, e2, hq⟩ := mh_ob hq
  refine st_invV (pc := 5) (ci := 10) (vs := [.int l1]) (rest := []) (st2 := [.int q2.1]) dX11_put_5 okX10_isJoint (by decide) hkq2 hbq2 wd_339 wd_340 wd_341 pdX10_isJoint rfl rfl rfl rfl (Nat.le_trans (by decide) hd) (Nat.le_of_ble_eq_true rfl) (T_X10_isJoint (Nat.le_refl _) e2) rfl ?_
  refine bd_if_eq (pc := 8) (tgt := 29) hq dX11_put_8 (by decide) (fun _ hq => ?_) (fun _ hq => ?_)
  ·
    refine st_lesS (lv' := [some (.ref l0), none, none, none]) ⟨Or.inr rfl, Or.inl rfl, Or.inl rfl, Or.inl rfl, trivial⟩ ?_
    exact T_X11_put_29 hd hq
  ·
    refine st_iload_n (pc := 11) dX11_put_11 rfl ?_
    obtain ⟨q3, e3, hq⟩ := mh_ob hq
    refine st_invS (pc := 12) (Y := mX11_isColour) (vs := [.int l2]) (rest := []) (st2 := [.int q3.1]) dX11_put_12 okX11_isColour wd_506 wd_507 pdX11_isColour rfl rfl rfl rfl (Nat.le_trans (by decide) hd) (Nat.le_of_ble_eq_true rfl) (T_X11_isColour (Nat.le_refl _) e3) rfl ?_
    refine bd_if_eq (pc := 15) (tgt := 29) hq dX11_put_15 (by decide) (fun _ hq => ?_) (fun _ hq => ?_)
    ·
      refine st_lesS (lv' := [some (.ref l0), none, none, none]) ⟨Or.inr rfl, Or.inl rfl, Or.inl rfl, Or.inl rfl, trivial⟩ ?_
      exact T_X11_put_29 hd hq
    ·
      refine st_iload_n (pc := 18) dX11_put_18 rfl ?_
      refine st_iconst (pc := 19) (v := (1 : Int32)) dX11_put_19 rfl ?_
      refine st_sipush (pc := 20) (v := (9999 : Int32)) dX11_put_20 (by decide) ?_
      obtain ⟨q4, e4, hq⟩ := mh_ob hq
      refine st_invS (pc := 23) (Y := mX11_within) (vs := [.int l3, .int (1 : Int32), .int (9999 : Int32)]) (rest := []) (st2 := [.int q4.1]) dX11_put_23 okX11_within wd_323 wd_324 pdX11_within rfl rfl rfl rfl (Nat.le_trans (by decide) hd) (Nat.le_of_ble_eq_true rfl) (T_X11_within (Nat.le_refl _) e4) rfl ?_
      refine bd_if_ne (pc := 26) (tgt := 35) hq dX11_put_26 (by decide) (fun _ hq => ?_) (fun _ hq => ?_)
      ·
        refine st_lesS (lv' := [some (.ref l0), none, none, none]) ⟨Or.inr rfl, Or.inl rfl, Or.inl rfl, Or.inl rfl, trivial⟩ ?_
        exact T_X11_put_29 hd hq
      ·
        refine st_aload_n (pc := 35) dX11_put_35 rfl ?_
        refine bd_getr (pc := 36) hq dX11_put_36 fl_11_12_11 rfl (fun v5 hq => ?_)
        refine st_iload_n (pc := 39) dX11_put_39 rfl ?_
        refine st_iconst (pc := 40) (v := (0 : Int32)) dX11_put_40 rfl ?_
        obtain ⟨⟨hbq6, hkq6⟩, hq⟩ := mh_oi hq
        obtain ⟨q6, e6, hq⟩ := mh_ob hq
        refine st_invV (pc := 41) (ci := 10) (vs := [.int l1, .int (0 : Int32)]) (rest := []) (st2 := [.int q6.1]) dX11_put_41 okX10_isOf (by decide) hkq6 hbq6 wd_359 wd_355 wd_356 pdX10_isOf rfl rfl rfl rfl (Nat.le_trans (by decide) hd) (Nat.le_of_ble_eq_true rfl) (T_X10_isOf (Nat.le_refl _) e6) rfl ?_
        refine bd_if_ne (pc := 44) (tgt := 53) hq dX11_put_44 (by decide) (fun _ hq => ?_) (fun _ hq => ?_)
        ·
          refine st_aload_n (pc := 47) dX11_put_47 rfl ?_
          refine st_iconst (pc := 48) (v := (5 : Int32)) dX11_put_48 rfl ?_
          obtain ⟨⟨hbq7, hkq7⟩, hq⟩ := mh_oi hq
          obtain ⟨q7, e7, hq⟩ := mh_ob hq
          refine st_invV (pc := 49) (ci := 11) (vs := [.int (5 : Int32)]) (rest := []) (st2 := [.int q7.1]) dX11_put_49 okX11_error (by decide) hkq7 hbq7 wd_326 wd_328 wp_0 pdX11_error rfl rfl rfl rfl (Nat.le_trans (by decide) hd) (Nat.le_of_ble_eq_true rfl) (T_X11_error (Nat.le_refl _) e7) rfl ?_
          exact bd_iret (pc := 52) hq dX11_put_52 rfl
        ·
          refine st_aload_n (pc := 53) dX11_put_53 rfl ?_
          refine bd_getr (pc := 54) hq dX11_put_54 fl_11_12_11 rfl (fun v7 hq => ?_)
          refine bd_getr (pc := 57) hq dX11_put_57 fl_11_196_10 rfl (fun v8 hq => ?_)
          refine bd_geti (pc := 60) hq dX11_put_60 fl_11_200_1 rfl (fun v9 hq => ?_)
          refine st_bipush (pc := 63) (v := (40 : Int32)) dX11_put_63 (by decide) ?_
          refine bd_icmp_lt (pc := 65) (tgt := 74) hq dX11_put_65 (by decide) (fun _ hq => ?_) (fun _ hq => ?_)
          ·
            refine st_aload_n (pc := 74) dX11_put_74 rfl ?_
            refine bd_getr (pc := 75) hq dX11_put_75 fl_11_12_11 rfl (fun v10 hq => ?_)
            refine st_iload_n (pc := 78) dX11_put_78 rfl ?_
            refine st_iload_n (pc := 79) dX11_put_79 rfl ?_
            refine st_iload_n (pc := 80) dX11_put_80 rfl ?_
            obtain ⟨⟨hbq11, hkq11⟩, hq⟩ := mh_oi hq
            obtain ⟨q11, e11, hq⟩ := mh_ob hq
            refine st_invV (pc := 81) (ci := 10) (vs := [.int l1, .int l2, .int l3]) (rest := []) (st2 := [.int q11.1]) dX11_put_81 okX10_putIn (by decide) hkq11 hbq11 wd_620 wd_621 wd_622 pdX10_putIn rfl rfl rfl rfl (Nat.le_trans (by decide) hd) (Nat.le_of_ble_eq_true rfl) (T_X10_putIn (Nat.le_refl _) e11) rfl ?_
            exact bd_iret (pc := 84) hq dX11_put_84 rfl
          ·
            refine st_aload_n (pc := 68) dX11_put_68 rfl ?_
            refine st_iconst (pc := 69) (v := (4 : Int32)) dX11_put_69 rfl ?_
            obtain ⟨⟨hbq10, hkq10⟩, hq⟩ := mh_oi hq
            obtain ⟨q10, e10, hq⟩ := mh_ob hq
            refine st_invV (pc := 70) (ci := 11) (vs := [.int (4 : Int32)]) (rest := []) (st2 := [.int q10.1]) dX11_put_70 okX11_error (by decide) hkq10 hbq10 wd_326 wd_328 wp_0 pdX11_error rfl rfl rfl rfl (Nat.le_trans (by decide) hd) (Nat.le_of_ble_eq_true rfl) (T_X11_error (Nat.le_refl _) e10) rfl ?_
            exact bd_iret (pc := 73) hq dX11_put_73 rfl
-- HoleWater.putIs(II)I
theorem dX11_putIs_27 : decode cX11_putIs 27 = .ok (.aload_n 0, 1) := by decide +kernel
theorem dX11_putIs_28 : decode cX11_putIs 28 = .ok (.iconst 1, 1) := by decide +kernel
theorem dX11_putIs_29 : decode cX11_putIs 29 = .ok (.invokevirtual 66, 3) := by decide +kernel
theorem dX11_putIs_32 : decode cX11_putIs 32 = .ok (.ireturn, 1) := by decide +kernel
theorem dX11_putIs_0 : decode cX11_putIs 0 = .ok (.iload_n 1, 1) := by decide +kernel
theorem dX11_putIs_1 : decode cX11_putIs 1 = .ok (.ifCond .lt 26, 3) := by decide +kernel
theorem dX11_putIs_4 : decode cX11_putIs 4 = .ok (.iload_n 1, 1) := by decide +kernel
theorem dX11_putIs_5 : decode cX11_putIs 5 = .ok (.aload_n 0, 1) := by decide +kernel
theorem dX11_putIs_6 : decode cX11_putIs 6 = .ok (.getfield 12, 3) := by decide +kernel
theorem dX11_putIs_9 : decode cX11_putIs 9 = .ok (.getfield 196, 3) := by decide +kernel
theorem dX11_putIs_12 : decode cX11_putIs 12 = .ok (.getfield 200, 3) := by decide +kernel
theorem dX11_putIs_15 : decode cX11_putIs 15 = .ok (.if_icmp .ge 12, 3) := by decide +kernel
theorem dX11_putIs_18 : decode cX11_putIs 18 = .ok (.iload_n 2, 1) := by decide +kernel
theorem dX11_putIs_19 : decode cX11_putIs 19 = .ok (.iconst 0, 1) := by decide +kernel
theorem dX11_putIs_20 : decode cX11_putIs 20 = .ok (.iconst 3, 1) := by decide +kernel
theorem dX11_putIs_21 : decode cX11_putIs 21 = .ok (.invokestatic 62, 3) := by decide +kernel
theorem dX11_putIs_24 : decode cX11_putIs 24 = .ok (.ifCond .ne 9, 3) := by decide +kernel
theorem dX11_putIs_33 : decode cX11_putIs 33 = .ok (.aload_n 0, 1) := by decide +kernel
theorem dX11_putIs_34 : decode cX11_putIs 34 = .ok (.getfield 12, 3) := by decide +kernel
theorem dX11_putIs_37 : decode cX11_putIs 37 = .ok (.getfield 196, 3) := by decide +kernel
theorem dX11_putIs_40 : decode cX11_putIs 40 = .ok (.getfield 208, 3) := by decide +kernel
theorem dX11_putIs_43 : decode cX11_putIs 43 = .ok (.iload_n 1, 1) := by decide +kernel
theorem dX11_putIs_44 : decode cX11_putIs 44 = .ok (.iconst 4, 1) := by decide +kernel
theorem dX11_putIs_45 : decode cX11_putIs 45 = .ok (.imul, 1) := by decide +kernel
theorem dX11_putIs_46 : decode cX11_putIs 46 = .ok (.iload_n 2, 1) := by decide +kernel
theorem dX11_putIs_47 : decode cX11_putIs 47 = .ok (.iadd, 1) := by decide +kernel
theorem dX11_putIs_48 : decode cX11_putIs 48 = .ok (.iaload, 1) := by decide +kernel
theorem dX11_putIs_49 : decode cX11_putIs 49 = .ok (.ireturn, 1) := by decide +kernel
def D_X11_putIs_27 (N : Nat) (h : mh_H) (l0 : Nat) : Option (Int32 × mh_H) :=
  kO h 11 l0 <|
  (D_X11_error N h l0 (1 : Int32)).bind fun q1 =>
  some (q1.1, q1.2)
set_option maxHeartbeats 4000000 in
set_option maxRecDepth 100000 in
theorem T_X11_putIs_27 {P : mh_E → Prop} {N d : Nat} (hd : 3 ≤ d) {z : (Int32 × mh_H)} {h : mh_H} {l0 : Nat} (hq : D_X11_putIs_27 N h l0 = some z) : mh_go P d mX11_putIs 27 [some (.ref l0), none, none] [] h (some (.int z.1)) z.2 := by
  unfold D_X11_putIs_27 at hq
  refine st_aload_n (pc := 27) dX11_putIs_27 rfl ?_
  refine st_iconst (pc := 28) (v := (1 : Int32)) dX11_putIs_28 rfl ?_
  obtain ⟨⟨hbq1, hkq1⟩, hq⟩ := mh_oi hq
  obtain ⟨q1, e1, hq⟩ := mh_ob hq
  refine st_invV (pc := 29) (ci := 11) (vs := [.int (1 : Int32)]) (rest := []) (st2 := [.int q1.1]) dX11_putIs_29 okX11_error (by decide) hkq1 hbq1 wd_326 wd_328 wp_0 pdX11_error rfl rfl rfl rfl (Nat.le_trans (by decide) hd) (Nat.le_of_ble_eq_true rfl) (T_X11_error (Nat.le_refl _) e1) rfl ?_
  exact bd_iret (pc := 32) hq dX11_putIs_32 rfl
def D_X11_putIs (N : Nat) (h : mh_H) (l0 : Nat) (l1 : Int32) (l2 : Int32) : Option (Int32 × mh_H) :=
  if l1 < 0 then (D_X11_putIs_27 N h l0)
  else ((gR h 11 l0 0).bind fun v1 =>
  (gR h 10 v1 8).bind fun v2 =>
  (gI h 1 v2 0).bind fun v3 =>
  if v3 ≤ l1 then (D_X11_putIs_27 N h l0)
  else ((D_X11_within N h l2 (0 : Int32) (3 : Int32)).bind fun q4 =>
  if q4.1 = 0 then (D_X11_putIs_27 N q4.2 l0)
  else ((gR q4.2 11 l0 0).bind fun v5 =>
  (gR q4.2 10 v5 8).bind fun v6 =>
  (gR q4.2 1 v6 2).bind fun v7 =>
  (aI q4.2 v7 ((l1 * (4 : Int32)) + l2)).bind fun v8 =>
  some (v8, q4.2))))
set_option maxHeartbeats 4000000 in
set_option maxRecDepth 100000 in
theorem T_X11_putIs {P : mh_E → Prop} {N d : Nat} (hd : 3 ≤ d) {z : (Int32 × mh_H)} {h : mh_H} {l0 : Nat} {l1 : Int32} {l2 : Int32} (hq : D_X11_putIs N h l0 l1 l2 = some z) : mh_go P d mX11_putIs 0 [some (.ref l0), some (.int l1), some (.int l2)] [] h (some (.int z.1)) z.2 := by
  unfold D_X11_putIs at hq
  refine st_iload_n (pc := 0) dX11_putIs_0 rfl ?_
  refine bd_if_lt (pc := 1) (tgt := 27) hq dX11_putIs_1 (by decide) (fun _ hq => ?_) (fun _ hq => ?_)
  ·
    refine st_lesS (lv' := [some (.ref l0), none, none]) ⟨Or.inr rfl, Or.inl rfl, Or.inl rfl, trivial⟩ ?_
    exact T_X11_putIs_27 hd hq
  ·
    refine st_iload_n (pc := 4) dX11_putIs_4 rfl ?_
    refine st_aload_n (pc := 5) dX11_putIs_5 rfl ?_
    refine bd_getr (pc := 6) hq dX11_putIs_6 fl_11_12_11 rfl (fun v1 hq => ?_)
    refine bd_getr (pc := 9) hq dX11_putIs_9 fl_11_196_10 rfl (fun v2 hq => ?_)
    refine bd_geti (pc := 12) hq dX11_putIs_12 fl_11_200_1 rfl (fun v3 hq => ?_)
    refine bd_icmp_ge (pc := 15) (tgt := 27) hq dX11_putIs_15 (by decide) (fun _ hq => ?_) (fun _ hq => ?_)
    ·
      refine st_lesS (lv' := [some (.ref l0), none, none]) ⟨Or.inr rfl, Or.inl rfl, Or.inl rfl, trivial⟩ ?_
      exact T_X11_putIs_27 hd hq
    ·
      refine st_iload_n (pc := 18) dX11_putIs_18 rfl ?_
      refine st_iconst (pc := 19) (v := (0 : Int32)) dX11_putIs_19 rfl ?_
      refine st_iconst (pc := 20) (v := (3 : Int32)) dX11_putIs_20 rfl ?_
      obtain ⟨q4, e4, hq⟩ := mh_ob hq
      refine st_invS (pc := 21) (Y := mX11_within) (vs := [.int l2, .int (0 : Int32), .int (3 : Int32)]) (rest := []) (st2 := [.int q4.1]) dX11_putIs_21 okX11_within wd_323 wd_324 pdX11_within rfl rfl rfl rfl (Nat.le_trans (by decide) hd) (Nat.le_of_ble_eq_true rfl) (T_X11_within (Nat.le_refl _) e4) rfl ?_
      refine bd_if_ne (pc := 24) (tgt := 33) hq dX11_putIs_24 (by decide) (fun _ hq => ?_) (fun _ hq => ?_)
      ·
        refine st_lesS (lv' := [some (.ref l0), none, none]) ⟨Or.inr rfl, Or.inl rfl, Or.inl rfl, trivial⟩ ?_
        exact T_X11_putIs_27 hd hq
      ·
        refine st_aload_n (pc := 33) dX11_putIs_33 rfl ?_
        refine bd_getr (pc := 34) hq dX11_putIs_34 fl_11_12_11 rfl (fun v5 hq => ?_)
        refine bd_getr (pc := 37) hq dX11_putIs_37 fl_11_196_10 rfl (fun v6 hq => ?_)
        refine bd_getr (pc := 40) hq dX11_putIs_40 fl_11_208_1 rfl (fun v7 hq => ?_)
        refine st_iload_n (pc := 43) dX11_putIs_43 rfl ?_
        refine st_iconst (pc := 44) (v := (4 : Int32)) dX11_putIs_44 rfl ?_
        refine st_imul (pc := 45) dX11_putIs_45 ?_
        refine st_iload_n (pc := 46) dX11_putIs_46 rfl ?_
        refine st_iadd (pc := 47) dX11_putIs_47 ?_
        refine bd_iald (pc := 48) hq dX11_putIs_48 (fun v8 hq => ?_)
        exact bd_iret (pc := 49) hq dX11_putIs_49 rfl
-- HoleWater.isSheet(I)Z
theorem dX11_isSheet_0 : decode cX11_isSheet 0 = .ok (.iload_n 0, 1) := by decide +kernel
theorem dX11_isSheet_1 : decode cX11_isSheet 1 = .ok (.iconst 0, 1) := by decide +kernel
theorem dX11_isSheet_2 : decode cX11_isSheet 2 = .ok (.iconst 3, 1) := by decide +kernel
theorem dX11_isSheet_3 : decode cX11_isSheet 3 = .ok (.invokestatic 62, 3) := by decide +kernel
theorem dX11_isSheet_6 : decode cX11_isSheet 6 = .ok (.ireturn, 1) := by decide +kernel
def D_X11_isSheet (N : Nat) (h : mh_H) (l0 : Int32) : Option (Int32 × mh_H) :=
  (D_X11_within N h l0 (0 : Int32) (3 : Int32)).bind fun q1 =>
  zB q1.1 q1.2
set_option maxHeartbeats 4000000 in
set_option maxRecDepth 100000 in
theorem T_X11_isSheet {P : mh_E → Prop} {N d : Nat} (hd : 2 ≤ d) {z : (Int32 × mh_H)} {h : mh_H} {l0 : Int32} (hq : D_X11_isSheet N h l0 = some z) : mh_go P d mX11_isSheet 0 [some (.int l0)] [] h (some (.int z.1)) z.2 := by
  unfold D_X11_isSheet at hq
  refine st_iload_n (pc := 0) dX11_isSheet_0 rfl ?_
  refine st_iconst (pc := 1) (v := (0 : Int32)) dX11_isSheet_1 rfl ?_
  refine st_iconst (pc := 2) (v := (3 : Int32)) dX11_isSheet_2 rfl ?_
  obtain ⟨q1, e1, hq⟩ := mh_ob hq
  refine st_invS (pc := 3) (Y := mX11_within) (vs := [.int l0, .int (0 : Int32), .int (3 : Int32)]) (rest := []) (st2 := [.int q1.1]) dX11_isSheet_3 okX11_within wd_323 wd_324 pdX11_within rfl rfl rfl rfl (Nat.le_trans (by decide) hd) (Nat.le_of_ble_eq_true rfl) (T_X11_within (Nat.le_refl _) e1) rfl ?_
  exact bd_zret (pc := 6) hq dX11_isSheet_6 rfl
-- HoleWater.pours(IIIII)I
theorem dX11_pours_36 : decode cX11_pours 36 = .ok (.aload_n 0, 1) := by decide +kernel
theorem dX11_pours_37 : decode cX11_pours 37 = .ok (.iconst 1, 1) := by decide +kernel
theorem dX11_pours_38 : decode cX11_pours 38 = .ok (.invokevirtual 66, 3) := by decide +kernel
theorem dX11_pours_41 : decode cX11_pours 41 = .ok (.ireturn, 1) := by decide +kernel
theorem dX11_pours_179 : decode cX11_pours 179 = .ok (.iinc 7 1, 3) := by decide +kernel
theorem dX11_pours_182 : decode cX11_pours 182 = .ok (.goto (-101), 3) := by decide +kernel
theorem dX11_pours_81 : decode cX11_pours 81 = .ok (.iload 7, 2) := by decide +kernel
theorem dX11_pours_83 : decode cX11_pours 83 = .ok (.iload 5, 2) := by decide +kernel
theorem dX11_pours_85 : decode cX11_pours 85 = .ok (.if_icmp .ge 100, 3) := by decide +kernel
theorem dX11_pours_185 : decode cX11_pours 185 = .ok (.iload 6, 2) := by decide +kernel
theorem dX11_pours_187 : decode cX11_pours 187 = .ok (.ireturn, 1) := by decide +kernel
theorem dX11_pours_88 : decode cX11_pours 88 = .ok (.iload 4, 2) := by decide +kernel
theorem dX11_pours_90 : decode cX11_pours 90 = .ok (.iload 7, 2) := by decide +kernel
theorem dX11_pours_92 : decode cX11_pours 92 = .ok (.iadd, 1) := by decide +kernel
theorem dX11_pours_93 : decode cX11_pours 93 = .ok (.iconst 0, 1) := by decide +kernel
theorem dX11_pours_94 : decode cX11_pours 94 = .ok (.aload_n 0, 1) := by decide +kernel
theorem dX11_pours_95 : decode cX11_pours 95 = .ok (.getfield 49, 3) := by decide +kernel
theorem dX11_pours_98 : decode cX11_pours 98 = .ok (.iload_n 3, 1) := by decide +kernel
theorem dX11_pours_99 : decode cX11_pours 99 = .ok (.iaload, 1) := by decide +kernel
theorem dX11_pours_100 : decode cX11_pours 100 = .ok (.iconst 1, 1) := by decide +kernel
theorem dX11_pours_101 : decode cX11_pours 101 = .ok (.isub, 1) := by decide +kernel
theorem dX11_pours_102 : decode cX11_pours 102 = .ok (.invokestatic 62, 3) := by decide +kernel
theorem dX11_pours_105 : decode cX11_pours 105 = .ok (.ifCond .ne 9, 3) := by decide +kernel
theorem dX11_pours_108 : decode cX11_pours 108 = .ok (.aload_n 0, 1) := by decide +kernel
theorem dX11_pours_109 : decode cX11_pours 109 = .ok (.iconst 1, 1) := by decide +kernel
theorem dX11_pours_110 : decode cX11_pours 110 = .ok (.invokevirtual 66, 3) := by decide +kernel
theorem dX11_pours_113 : decode cX11_pours 113 = .ok (.ireturn, 1) := by decide +kernel
theorem dX11_pours_114 : decode cX11_pours 114 = .ok (.aload_n 0, 1) := by decide +kernel
theorem dX11_pours_115 : decode cX11_pours 115 = .ok (.getfield 52, 3) := by decide +kernel
theorem dX11_pours_118 : decode cX11_pours 118 = .ok (.iload_n 3, 1) := by decide +kernel
theorem dX11_pours_119 : decode cX11_pours 119 = .ok (.bipush 24, 2) := by decide +kernel
theorem dX11_pours_121 : decode cX11_pours 121 = .ok (.imul, 1) := by decide +kernel
theorem dX11_pours_122 : decode cX11_pours 122 = .ok (.iload 4, 2) := by decide +kernel
theorem dX11_pours_124 : decode cX11_pours 124 = .ok (.iadd, 1) := by decide +kernel
theorem dX11_pours_125 : decode cX11_pours 125 = .ok (.iload 7, 2) := by decide +kernel
theorem dX11_pours_127 : decode cX11_pours 127 = .ok (.iadd, 1) := by decide +kernel
theorem dX11_pours_128 : decode cX11_pours 128 = .ok (.iaload, 1) := by decide +kernel
theorem dX11_pours_129 : decode cX11_pours 129 = .ok (.istore 8, 2) := by decide +kernel
theorem dX11_pours_131 : decode cX11_pours 131 = .ok (.iload 8, 2) := by decide +kernel
theorem dX11_pours_133 : decode cX11_pours 133 = .ok (.iconst 1, 1) := by decide +kernel
theorem dX11_pours_134 : decode cX11_pours 134 = .ok (.sipush 9999, 3) := by decide +kernel
theorem dX11_pours_137 : decode cX11_pours 137 = .ok (.invokestatic 62, 3) := by decide +kernel
theorem dX11_pours_140 : decode cX11_pours 140 = .ok (.ifCond .eq 39, 3) := by decide +kernel
theorem dX11_pours_143 : decode cX11_pours 143 = .ok (.aload_n 0, 1) := by decide +kernel
theorem dX11_pours_144 : decode cX11_pours 144 = .ok (.getfield 12, 3) := by decide +kernel
theorem dX11_pours_147 : decode cX11_pours 147 = .ok (.getfield 196, 3) := by decide +kernel
theorem dX11_pours_150 : decode cX11_pours 150 = .ok (.getfield 200, 3) := by decide +kernel
theorem dX11_pours_153 : decode cX11_pours 153 = .ok (.bipush 40, 2) := by decide +kernel
theorem dX11_pours_155 : decode cX11_pours 155 = .ok (.if_icmp .lt 9, 3) := by decide +kernel
theorem dX11_pours_164 : decode cX11_pours 164 = .ok (.aload_n 0, 1) := by decide +kernel
theorem dX11_pours_165 : decode cX11_pours 165 = .ok (.getfield 12, 3) := by decide +kernel
theorem dX11_pours_168 : decode cX11_pours 168 = .ok (.iload_n 1, 1) := by decide +kernel
theorem dX11_pours_169 : decode cX11_pours 169 = .ok (.iload_n 2, 1) := by decide +kernel
theorem dX11_pours_170 : decode cX11_pours 170 = .ok (.iload 8, 2) := by decide +kernel
theorem dX11_pours_172 : decode cX11_pours 172 = .ok (.invokevirtual 205, 3) := by decide +kernel
theorem dX11_pours_175 : decode cX11_pours 175 = .ok (.pop, 1) := by decide +kernel
theorem dX11_pours_176 : decode cX11_pours 176 = .ok (.iinc 6 1, 3) := by decide +kernel
theorem dX11_pours_158 : decode cX11_pours 158 = .ok (.aload_n 0, 1) := by decide +kernel
theorem dX11_pours_159 : decode cX11_pours 159 = .ok (.iconst 4, 1) := by decide +kernel
theorem dX11_pours_160 : decode cX11_pours 160 = .ok (.invokevirtual 66, 3) := by decide +kernel
theorem dX11_pours_163 : decode cX11_pours 163 = .ok (.ireturn, 1) := by decide +kernel
theorem dX11_pours_0 : decode cX11_pours 0 = .ok (.aload_n 0, 1) := by decide +kernel
theorem dX11_pours_1 : decode cX11_pours 1 = .ok (.getfield 12, 3) := by decide +kernel
theorem dX11_pours_4 : decode cX11_pours 4 = .ok (.iload_n 1, 1) := by decide +kernel
theorem dX11_pours_5 : decode cX11_pours 5 = .ok (.invokevirtual 77, 3) := by decide +kernel
theorem dX11_pours_8 : decode cX11_pours 8 = .ok (.ifCond .eq 28, 3) := by decide +kernel
theorem dX11_pours_11 : decode cX11_pours 11 = .ok (.iload_n 2, 1) := by decide +kernel
theorem dX11_pours_12 : decode cX11_pours 12 = .ok (.invokestatic 183, 3) := by decide +kernel
theorem dX11_pours_15 : decode cX11_pours 15 = .ok (.ifCond .eq 21, 3) := by decide +kernel
theorem dX11_pours_18 : decode cX11_pours 18 = .ok (.iload_n 3, 1) := by decide +kernel
theorem dX11_pours_19 : decode cX11_pours 19 = .ok (.invokestatic 211, 3) := by decide +kernel
theorem dX11_pours_22 : decode cX11_pours 22 = .ok (.ifCond .eq 14, 3) := by decide +kernel
theorem dX11_pours_25 : decode cX11_pours 25 = .ok (.iload 5, 2) := by decide +kernel
theorem dX11_pours_27 : decode cX11_pours 27 = .ok (.iconst 0, 1) := by decide +kernel
theorem dX11_pours_28 : decode cX11_pours 28 = .ok (.bipush 9, 2) := by decide +kernel
theorem dX11_pours_30 : decode cX11_pours 30 = .ok (.invokestatic 62, 3) := by decide +kernel
theorem dX11_pours_33 : decode cX11_pours 33 = .ok (.ifCond .ne 9, 3) := by decide +kernel
theorem dX11_pours_42 : decode cX11_pours 42 = .ok (.aload_n 0, 1) := by decide +kernel
theorem dX11_pours_43 : decode cX11_pours 43 = .ok (.getfield 12, 3) := by decide +kernel
theorem dX11_pours_46 : decode cX11_pours 46 = .ok (.iload_n 1, 1) := by decide +kernel
theorem dX11_pours_47 : decode cX11_pours 47 = .ok (.iconst 0, 1) := by decide +kernel
theorem dX11_pours_48 : decode cX11_pours 48 = .ok (.invokevirtual 112, 3) := by decide +kernel
theorem dX11_pours_51 : decode cX11_pours 51 = .ok (.ifCond .ne 9, 3) := by decide +kernel
theorem dX11_pours_54 : decode cX11_pours 54 = .ok (.aload_n 0, 1) := by decide +kernel
theorem dX11_pours_55 : decode cX11_pours 55 = .ok (.iconst 5, 1) := by decide +kernel
theorem dX11_pours_56 : decode cX11_pours 56 = .ok (.invokevirtual 66, 3) := by decide +kernel
theorem dX11_pours_59 : decode cX11_pours 59 = .ok (.ireturn, 1) := by decide +kernel
theorem dX11_pours_60 : decode cX11_pours 60 = .ok (.aload_n 0, 1) := by decide +kernel
theorem dX11_pours_61 : decode cX11_pours 61 = .ok (.getfield 46, 3) := by decide +kernel
theorem dX11_pours_64 : decode cX11_pours 64 = .ok (.iload_n 3, 1) := by decide +kernel
theorem dX11_pours_65 : decode cX11_pours 65 = .ok (.iaload, 1) := by decide +kernel
theorem dX11_pours_66 : decode cX11_pours 66 = .ok (.ifCond .ne 9, 3) := by decide +kernel
theorem dX11_pours_69 : decode cX11_pours 69 = .ok (.aload_n 0, 1) := by decide +kernel
theorem dX11_pours_70 : decode cX11_pours 70 = .ok (.iconst 2, 1) := by decide +kernel
theorem dX11_pours_71 : decode cX11_pours 71 = .ok (.invokevirtual 66, 3) := by decide +kernel
theorem dX11_pours_74 : decode cX11_pours 74 = .ok (.ireturn, 1) := by decide +kernel
theorem dX11_pours_75 : decode cX11_pours 75 = .ok (.iconst 0, 1) := by decide +kernel
theorem dX11_pours_76 : decode cX11_pours 76 = .ok (.istore 6, 2) := by decide +kernel
theorem dX11_pours_78 : decode cX11_pours 78 = .ok (.iconst 0, 1) := by decide +kernel
theorem dX11_pours_79 : decode cX11_pours 79 = .ok (.istore 7, 2) := by decide +kernel
def D_X11_pours_36 (N : Nat) (h : mh_H) (l0 : Nat) : Option (Int32 × mh_H) :=
  kO h 11 l0 <|
  (D_X11_error N h l0 (1 : Int32)).bind fun q1 =>
  some (q1.1, q1.2)
set_option maxHeartbeats 4000000 in
set_option maxRecDepth 100000 in
theorem T_X11_pours_36 {P : mh_E → Prop} {N d : Nat} (hd : 3 ≤ d) {z : (Int32 × mh_H)} {h : mh_H} {l0 : Nat} (hq : D_X11_pours_36 N h l0 = some z) : mh_go P d mX11_pours 36 [some (.ref l0), none, none, none, none, none, none, none, none] [] h (some (.int z.1)) z.2 := by
  unfold D_X11_pours_36 at hq
  refine st_aload_n (pc := 36) dX11_pours_36 rfl ?_
  refine st_iconst (pc := 37) (v := (1 : Int32)) dX11_pours_37 rfl ?_
  obtain ⟨⟨hbq1, hkq1⟩, hq⟩ := mh_oi hq
  obtain ⟨q1, e1, hq⟩ := mh_ob hq
  refine st_invV (pc := 38) (ci := 11) (vs := [.int (1 : Int32)]) (rest := []) (st2 := [.int q1.1]) dX11_pours_38 okX11_error (by decide) hkq1 hbq1 wd_326 wd_328 wp_0 pdX11_error rfl rfl rfl rfl (Nat.le_trans (by decide) hd) (Nat.le_of_ble_eq_true rfl) (T_X11_error (Nat.le_refl _) e1) rfl ?_
  exact bd_iret (pc := 41) hq dX11_pours_41 rfl
def D_X11_pours_179 (N : Nat) (k81 : mh_H → Nat → Int32 → Int32 → Int32 → Int32 → Int32 → Int32 → Int32 → Option (Int32 × mh_H)) (h : mh_H) (l0 : Nat) (l1 : Int32) (l2 : Int32) (l3 : Int32) (l4 : Int32) (l5 : Int32) (l6 : Int32) (l7 : Int32) : Option (Int32 × mh_H) :=
  k81 h l0 l1 l2 l3 l4 l5 l6 (l7 + Int32.ofInt (1))
set_option maxHeartbeats 4000000 in
set_option maxRecDepth 100000 in
theorem T_X11_pours_179 {P : mh_E → Prop} {N d : Nat} (hd : 3 ≤ d) {z : (Int32 × mh_H)} {k81 : mh_H → Nat → Int32 → Int32 → Int32 → Int32 → Int32 → Int32 → Int32 → Option (Int32 × mh_H)} (hk81 : ∀ (h : mh_H) (l0 : Nat) (l1 : Int32) (l2 : Int32) (l3 : Int32) (l4 : Int32) (l5 : Int32) (l6 : Int32) (l7 : Int32), k81 h l0 l1 l2 l3 l4 l5 l6 l7 = some z → mh_go P d mX11_pours 81 [some (.ref l0), some (.int l1), some (.int l2), some (.int l3), some (.int l4), some (.int l5), some (.int l6), some (.int l7), none] [] h (some (.int z.1)) z.2) {h : mh_H} {l0 : Nat} {l1 : Int32} {l2 : Int32} {l3 : Int32} {l4 : Int32} {l5 : Int32} {l6 : Int32} {l7 : Int32} (hq : D_X11_pours_179 N k81 h l0 l1 l2 l3 l4 l5 l6 l7 = some z) : mh_go P d mX11_pours 179 [some (.ref l0), some (.int l1), some (.int l2), some (.int l3), some (.int l4), some (.int l5), some (.int l6), some (.int l7), none] [] h (some (.int z.1)) z.2 := by
  unfold D_X11_pours_179 at hq
  refine st_iinc (pc := 179) (lv' := [some (.ref l0), some (.int l1), some (.int l2), some (.int l3), some (.int l4), some (.int l5), some (.int l6), some (.int (l7 + Int32.ofInt (1))), none]) dX11_pours_179 rfl rfl (by decide) rfl ?_
  refine st_goto (pc := 182) (tgt := 81) dX11_pours_182 (by decide) ?_
  exact hk81 _ _ _ _ _ _ _ _ _ hq
def D_X11_pours_81 (N : Nat) : Nat → mh_H → Nat → Int32 → Int32 → Int32 → Int32 → Int32 → Int32 → Int32 → Option (Int32 × mh_H)
  | 0, _, _, _, _, _, _, _, _, _ => none
  | F + 1, h, l0, l1, l2, l3, l4, l5, l6, l7 =>
    if l5 ≤ l7 then (some (l6, h))
    else ((gR h 11 l0 7).bind fun v1 =>
    (aI h v1 l3).bind fun v2 =>
    (D_X11_within N h (l4 + l7) (0 : Int32) (v2 - (1 : Int32))).bind fun q3 =>
    if q3.1 = 0 then (kO q3.2 11 l0 <|
    (D_X11_error N q3.2 l0 (1 : Int32)).bind fun q4 =>
    some (q4.1, q4.2))
    else ((gR q3.2 11 l0 8).bind fun v4 =>
    (aI q3.2 v4 (((l3 * (24 : Int32)) + l4) + l7)).bind fun v5 =>
    (D_X11_within N q3.2 v5 (1 : Int32) (9999 : Int32)).bind fun q6 =>
    if q6.1 = 0 then (D_X11_pours_179 N (D_X11_pours_81 N F) q6.2 l0 l1 l2 l3 l4 l5 l6 l7)
    else ((gR q6.2 11 l0 0).bind fun v7 =>
    (gR q6.2 10 v7 8).bind fun v8 =>
    (gI q6.2 1 v8 0).bind fun v9 =>
    if v9 < (40 : Int32) then ((gR q6.2 11 l0 0).bind fun v10 =>
    kO q6.2 10 v10 <|
    (D_X10_putIn N q6.2 v10 l1 l2 v5).bind fun q11 =>
    D_X11_pours_179 N (D_X11_pours_81 N F) q11.2 l0 l1 l2 l3 l4 l5 (l6 + Int32.ofInt (1)) l7)
    else (kO q6.2 11 l0 <|
    (D_X11_error N q6.2 l0 (4 : Int32)).bind fun q10 =>
    some (q10.1, q10.2)))))
set_option maxHeartbeats 4000000 in
set_option maxRecDepth 100000 in
theorem T_X11_pours_81 {P : mh_E → Prop} {N d : Nat} (hd : 3 ≤ d) {z : (Int32 × mh_H)} : ∀ (F : Nat) (h : mh_H) (l0 : Nat) (l1 : Int32) (l2 : Int32) (l3 : Int32) (l4 : Int32) (l5 : Int32) (l6 : Int32) (l7 : Int32), D_X11_pours_81 N F h l0 l1 l2 l3 l4 l5 l6 l7 = some z → mh_go P d mX11_pours 81 [some (.ref l0), some (.int l1), some (.int l2), some (.int l3), some (.int l4), some (.int l5), some (.int l6), some (.int l7), none] [] h (some (.int z.1)) z.2 := by
  intro F
  induction F with
  | zero => intro h l0 l1 l2 l3 l4 l5 l6 l7 hq; rw [D_X11_pours_81] at hq; cases hq
  | succ F ih =>
    intro h l0 l1 l2 l3 l4 l5 l6 l7 hq
    rw [D_X11_pours_81] at hq
    refine st_iload (pc := 81) dX11_pours_81 rfl ?_
    refine st_iload (pc := 83) dX11_pours_83 rfl ?_
    refine bd_icmp_ge (pc := 85) (tgt := 185) hq dX11_pours_85 (by decide) (fun _ hq => ?_) (fun _ hq => ?_)
    ·
      refine st_iload (pc := 185) dX11_pours_185 rfl ?_
      exact bd_iret (pc := 187) hq dX11_pours_187 rfl
    ·
      refine st_iload (pc := 88) dX11_pours_88 rfl ?_
      refine st_iload (pc := 90) dX11_pours_90 rfl ?_
      refine st_iadd (pc := 92) dX11_pours_92 ?_
      refine st_iconst (pc := 93) (v := (0 : Int32)) dX11_pours_93 rfl ?_
      refine st_aload_n (pc := 94) dX11_pours_94 rfl ?_
      refine bd_getr (pc := 95) hq dX11_pours_95 fl_11_49_11 rfl (fun v1 hq => ?_)
      refine st_iload_n (pc := 98) dX11_pours_98 rfl ?_
      refine bd_iald (pc := 99) hq dX11_pours_99 (fun v2 hq => ?_)
      refine st_iconst (pc := 100) (v := (1 : Int32)) dX11_pours_100 rfl ?_
      refine st_isub (pc := 101) dX11_pours_101 ?_
      obtain ⟨q3, e3, hq⟩ := mh_ob hq
      refine st_invS (pc := 102) (Y := mX11_within) (vs := [.int (l4 + l7), .int (0 : Int32), .int (v2 - (1 : Int32))]) (rest := []) (st2 := [.int q3.1]) dX11_pours_102 okX11_within wd_323 wd_324 pdX11_within rfl rfl rfl rfl (Nat.le_trans (by decide) hd) (Nat.le_of_ble_eq_true rfl) (T_X11_within (Nat.le_refl _) e3) rfl ?_
      refine bd_if_ne (pc := 105) (tgt := 114) hq dX11_pours_105 (by decide) (fun _ hq => ?_) (fun _ hq => ?_)
      ·
        refine st_aload_n (pc := 108) dX11_pours_108 rfl ?_
        refine st_iconst (pc := 109) (v := (1 : Int32)) dX11_pours_109 rfl ?_
        obtain ⟨⟨hbq4, hkq4⟩, hq⟩ := mh_oi hq
        obtain ⟨q4, e4, hq⟩ := mh_ob hq
        refine st_invV (pc := 110) (ci := 11) (vs := [.int (1 : Int32)]) (rest := []) (st2 := [.int q4.1]) dX11_pours_110 okX11_error (by decide) hkq4 hbq4 wd_326 wd_328 wp_0 pdX11_error rfl rfl rfl rfl (Nat.le_trans (by decide) hd) (Nat.le_of_ble_eq_true rfl) (T_X11_error (Nat.le_refl _) e4) rfl ?_
        exact bd_iret (pc := 113) hq dX11_pours_113 rfl
      ·
        refine st_aload_n (pc := 114) dX11_pours_114 rfl ?_
        refine bd_getr (pc := 115) hq dX11_pours_115 fl_11_52_11 rfl (fun v4 hq => ?_)
        refine st_iload_n (pc := 118) dX11_pours_118 rfl ?_
        refine st_bipush (pc := 119) (v := (24 : Int32)) dX11_pours_119 (by decide) ?_
        refine st_imul (pc := 121) dX11_pours_121 ?_
        refine st_iload (pc := 122) dX11_pours_122 rfl ?_
        refine st_iadd (pc := 124) dX11_pours_124 ?_
        refine st_iload (pc := 125) dX11_pours_125 rfl ?_
        refine st_iadd (pc := 127) dX11_pours_127 ?_
        refine bd_iald (pc := 128) hq dX11_pours_128 (fun v5 hq => ?_)
        refine st_istore (pc := 129) (lv' := [some (.ref l0), some (.int l1), some (.int l2), some (.int l3), some (.int l4), some (.int l5), some (.int l6), some (.int l7), some (.int v5)]) dX11_pours_129 rfl (by decide) rfl ?_
        refine st_iload (pc := 131) dX11_pours_131 rfl ?_
        refine st_iconst (pc := 133) (v := (1 : Int32)) dX11_pours_133 rfl ?_
        refine st_sipush (pc := 134) (v := (9999 : Int32)) dX11_pours_134 (by decide) ?_
        obtain ⟨q6, e6, hq⟩ := mh_ob hq
        refine st_invS (pc := 137) (Y := mX11_within) (vs := [.int v5, .int (1 : Int32), .int (9999 : Int32)]) (rest := []) (st2 := [.int q6.1]) dX11_pours_137 okX11_within wd_323 wd_324 pdX11_within rfl rfl rfl rfl (Nat.le_trans (by decide) hd) (Nat.le_of_ble_eq_true rfl) (T_X11_within (Nat.le_refl _) e6) rfl ?_
        refine bd_if_eq (pc := 140) (tgt := 179) hq dX11_pours_140 (by decide) (fun _ hq => ?_) (fun _ hq => ?_)
        ·
          refine st_lesS (lv' := [some (.ref l0), some (.int l1), some (.int l2), some (.int l3), some (.int l4), some (.int l5), some (.int l6), some (.int l7), none]) ⟨Or.inr rfl, Or.inr rfl, Or.inr rfl, Or.inr rfl, Or.inr rfl, Or.inr rfl, Or.inr rfl, Or.inr rfl, Or.inl rfl, trivial⟩ ?_
          exact T_X11_pours_179 hd ih hq
        ·
          refine st_aload_n (pc := 143) dX11_pours_143 rfl ?_
          refine bd_getr (pc := 144) hq dX11_pours_144 fl_11_12_11 rfl (fun v7 hq => ?_)
          refine bd_getr (pc := 147) hq dX11_pours_147 fl_11_196_10 rfl (fun v8 hq => ?_)
          refine bd_geti (pc := 150) hq dX11_pours_150 fl_11_200_1 rfl (fun v9 hq => ?_)
          refine st_bipush (pc := 153) (v := (40 : Int32)) dX11_pours_153 (by decide) ?_
          refine bd_icmp_lt (pc := 155) (tgt := 164) hq dX11_pours_155 (by decide) (fun _ hq => ?_) (fun _ hq => ?_)
          ·
            refine st_aload_n (pc := 164) dX11_pours_164 rfl ?_
            refine bd_getr (pc := 165) hq dX11_pours_165 fl_11_12_11 rfl (fun v10 hq => ?_)
            refine st_iload_n (pc := 168) dX11_pours_168 rfl ?_
            refine st_iload_n (pc := 169) dX11_pours_169 rfl ?_
            refine st_iload (pc := 170) dX11_pours_170 rfl ?_
            obtain ⟨⟨hbq11, hkq11⟩, hq⟩ := mh_oi hq
            obtain ⟨q11, e11, hq⟩ := mh_ob hq
            refine st_invV (pc := 172) (ci := 10) (vs := [.int l1, .int l2, .int v5]) (rest := []) (st2 := [.int q11.1]) dX11_pours_172 okX10_putIn (by decide) hkq11 hbq11 wd_620 wd_621 wd_622 pdX10_putIn rfl rfl rfl rfl (Nat.le_trans (by decide) hd) (Nat.le_of_ble_eq_true rfl) (T_X10_putIn (Nat.le_refl _) e11) rfl ?_
            refine st_pop (pc := 175) dX11_pours_175 rfl ?_
            refine st_iinc (pc := 176) (lv' := [some (.ref l0), some (.int l1), some (.int l2), some (.int l3), some (.int l4), some (.int l5), some (.int (l6 + Int32.ofInt (1))), some (.int l7), some (.int v5)]) dX11_pours_176 rfl rfl (by decide) rfl ?_
            refine st_lesS (lv' := [some (.ref l0), some (.int l1), some (.int l2), some (.int l3), some (.int l4), some (.int l5), some (.int (l6 + Int32.ofInt (1))), some (.int l7), none]) ⟨Or.inr rfl, Or.inr rfl, Or.inr rfl, Or.inr rfl, Or.inr rfl, Or.inr rfl, Or.inr rfl, Or.inr rfl, Or.inl rfl, trivial⟩ ?_
            exact T_X11_pours_179 hd ih hq
          ·
            refine st_aload_n (pc := 158) dX11_pours_158 rfl ?_
            refine st_iconst (pc := 159) (v := (4 : Int32)) dX11_pours_159 rfl ?_
            obtain ⟨⟨hbq10, hkq10⟩, hq⟩ := mh_oi hq
            obtain ⟨q10, e10, hq⟩ := mh_ob hq
            refine st_invV (pc := 160) (ci := 11) (vs := [.int (4 : Int32)]) (rest := []) (st2 := [.int q10.1]) dX11_pours_160 okX11_error (by decide) hkq10 hbq10 wd_326 wd_328 wp_0 pdX11_error rfl rfl rfl rfl (Nat.le_trans (by decide) hd) (Nat.le_of_ble_eq_true rfl) (T_X11_error (Nat.le_refl _) e10) rfl ?_
            exact bd_iret (pc := 163) hq dX11_pours_163 rfl
def D_X11_pours (N : Nat) (h : mh_H) (l0 : Nat) (l1 : Int32) (l2 : Int32) (l3 : Int32) (l4 : Int32) (l5 : Int32) : Option (Int32 × mh_H) :=
  (gR h 11 l0 0).bind fun v1 =>
  kO h 10 v1 <|
  (D_X10_isJoint N h v1 l1).bind fun q2 =>
  if q2.1 = 0 then (D_X11_pours_36 N q2.2 l0)
  else ((D_X11_isColour N q2.2 l2).bind fun q3 =>
  if q3.1 = 0 then (D_X11_pours_36 N q3.2 l0)
  else ((D_X11_isSheet N q3.2 l3).bind fun q4 =>
  if q4.1 = 0 then (D_X11_pours_36 N q4.2 l0)
  else ((D_X11_within N q4.2 l5 (0 : Int32) (9 : Int32)).bind fun q5 =>
  if q5.1 = 0 then (D_X11_pours_36 N q5.2 l0)
  else ((gR q5.2 11 l0 0).bind fun v6 =>
  kO q5.2 10 v6 <|
  (D_X10_isOf N q5.2 v6 l1 (0 : Int32)).bind fun q7 =>
  if q7.1 = 0 then (kO q7.2 11 l0 <|
  (D_X11_error N q7.2 l0 (5 : Int32)).bind fun q8 =>
  some (q8.1, q8.2))
  else ((gR q7.2 11 l0 6).bind fun v8 =>
  (aI q7.2 v8 l3).bind fun v9 =>
  if v9 = 0 then (kO q7.2 11 l0 <|
  (D_X11_error N q7.2 l0 (2 : Int32)).bind fun q10 =>
  some (q10.1, q10.2))
  else (D_X11_pours_81 N N q7.2 l0 l1 l2 l3 l4 l5 (0 : Int32) (0 : Int32)))))))
set_option maxHeartbeats 4000000 in
set_option maxRecDepth 100000 in
theorem T_X11_pours {P : mh_E → Prop} {N d : Nat} (hd : 3 ≤ d) {z : (Int32 × mh_H)} {h : mh_H} {l0 : Nat} {l1 : Int32} {l2 : Int32} {l3 : Int32} {l4 : Int32} {l5 : Int32} (hq : D_X11_pours N h l0 l1 l2 l3 l4 l5 = some z) : mh_go P d mX11_pours 0 [some (.ref l0), some (.int l1), some (.int l2), some (.int l3), some (.int l4), some (.int l5), none, none, none] [] h (some (.int z.1)) z.2 := by
  unfold D_X11_pours at hq
  refine st_aload_n (pc := 0) dX11_pours_0 rfl ?_
  refine bd_getr (pc := 1) hq dX11_pours_1 fl_11_12_11 rfl (fun v1 hq => ?_)
  refine st_iload_n (pc := 4) dX11_pours_4 rfl ?_
  obtain ⟨⟨hbq2, hkq2⟩, hq⟩ := mh_oi hq
  obtain ⟨q2, e2, hq⟩ := mh_ob hq
  refine st_invV (pc := 5) (ci := 10) (vs := [.int l1]) (rest := []) (st2 := [.int q2.1]) dX11_pours_5 okX10_isJoint (by decide) hkq2 hbq2 wd_339 wd_340 wd_341 pdX10_isJoint rfl rfl rfl rfl (Nat.le_trans (by decide) hd) (Nat.le_of_ble_eq_true rfl) (T_X10_isJoint (Nat.le_refl _) e2) rfl ?_
  refine bd_if_eq (pc := 8) (tgt := 36) hq dX11_pours_8 (by decide) (fun _ hq => ?_) (fun _ hq => ?_)
  ·
    refine st_lesS (lv' := [some (.ref l0), none, none, none, none, none, none, none, none]) ⟨Or.inr rfl, Or.inl rfl, Or.inl rfl, Or.inl rfl, Or.inl rfl, Or.inl rfl, Or.inr rfl, Or.inr rfl, Or.inr rfl, trivial⟩ ?_
    exact T_X11_pours_36 hd hq
  ·
    refine st_iload_n (pc := 11) dX11_pours_11 rfl ?_
    obtain ⟨q3, e3, hq⟩ := mh_ob hq
    refine st_invS (pc := 12) (Y := mX11_isColour) (vs := [.int l2]) (rest := []) (st2 := [.int q3.1]) dX11_pours_12 okX11_isColour wd_506 wd_507 pdX11_isColour rfl rfl rfl rfl (Nat.le_trans (by decide) hd) (Nat.le_of_ble_eq_true rfl) (T_X11_isColour (Nat.le_refl _) e3) rfl ?_
    refine bd_if_eq (pc := 15) (tgt := 36) hq dX11_pours_15 (by decide) (fun _ hq => ?_) (fun _ hq => ?_)
    ·
      refine st_lesS (lv' := [some (.ref l0), none, none, none, none, none, none, none, none]) ⟨Or.inr rfl, Or.inl rfl, Or.inl rfl, Or.inl rfl, Or.inl rfl, Or.inl rfl, Or.inr rfl, Or.inr rfl, Or.inr rfl, trivial⟩ ?_
      exact T_X11_pours_36 hd hq
    ·
      refine st_iload_n (pc := 18) dX11_pours_18 rfl ?_
      obtain ⟨q4, e4, hq⟩ := mh_ob hq
      refine st_invS (pc := 19) (Y := mX11_isSheet) (vs := [.int l3]) (rest := []) (st2 := [.int q4.1]) dX11_pours_19 okX11_isSheet wd_636 wd_637 pdX11_isSheet rfl rfl rfl rfl (Nat.le_trans (by decide) hd) (Nat.le_of_ble_eq_true rfl) (T_X11_isSheet (Nat.le_refl _) e4) rfl ?_
      refine bd_if_eq (pc := 22) (tgt := 36) hq dX11_pours_22 (by decide) (fun _ hq => ?_) (fun _ hq => ?_)
      ·
        refine st_lesS (lv' := [some (.ref l0), none, none, none, none, none, none, none, none]) ⟨Or.inr rfl, Or.inl rfl, Or.inl rfl, Or.inl rfl, Or.inl rfl, Or.inl rfl, Or.inr rfl, Or.inr rfl, Or.inr rfl, trivial⟩ ?_
        exact T_X11_pours_36 hd hq
      ·
        refine st_iload (pc := 25) dX11_pours_25 rfl ?_
        refine st_iconst (pc := 27) (v := (0 : Int32)) dX11_pours_27 rfl ?_
        refine st_bipush (pc := 28) (v := (9 : Int32)) dX11_pours_28 (by decide) ?_
        obtain ⟨q5, e5, hq⟩ := mh_ob hq
        refine st_invS (pc := 30) (Y := mX11_within) (vs := [.int l5, .int (0 : Int32), .int (9 : Int32)]) (rest := []) (st2 := [.int q5.1]) dX11_pours_30 okX11_within wd_323 wd_324 pdX11_within rfl rfl rfl rfl (Nat.le_trans (by decide) hd) (Nat.le_of_ble_eq_true rfl) (T_X11_within (Nat.le_refl _) e5) rfl ?_
        refine bd_if_ne (pc := 33) (tgt := 42) hq dX11_pours_33 (by decide) (fun _ hq => ?_) (fun _ hq => ?_)
        ·
          refine st_lesS (lv' := [some (.ref l0), none, none, none, none, none, none, none, none]) ⟨Or.inr rfl, Or.inl rfl, Or.inl rfl, Or.inl rfl, Or.inl rfl, Or.inl rfl, Or.inr rfl, Or.inr rfl, Or.inr rfl, trivial⟩ ?_
          exact T_X11_pours_36 hd hq
        ·
          refine st_aload_n (pc := 42) dX11_pours_42 rfl ?_
          refine bd_getr (pc := 43) hq dX11_pours_43 fl_11_12_11 rfl (fun v6 hq => ?_)
          refine st_iload_n (pc := 46) dX11_pours_46 rfl ?_
          refine st_iconst (pc := 47) (v := (0 : Int32)) dX11_pours_47 rfl ?_
          obtain ⟨⟨hbq7, hkq7⟩, hq⟩ := mh_oi hq
          obtain ⟨q7, e7, hq⟩ := mh_ob hq
          refine st_invV (pc := 48) (ci := 10) (vs := [.int l1, .int (0 : Int32)]) (rest := []) (st2 := [.int q7.1]) dX11_pours_48 okX10_isOf (by decide) hkq7 hbq7 wd_359 wd_355 wd_356 pdX10_isOf rfl rfl rfl rfl (Nat.le_trans (by decide) hd) (Nat.le_of_ble_eq_true rfl) (T_X10_isOf (Nat.le_refl _) e7) rfl ?_
          refine bd_if_ne (pc := 51) (tgt := 60) hq dX11_pours_51 (by decide) (fun _ hq => ?_) (fun _ hq => ?_)
          ·
            refine st_aload_n (pc := 54) dX11_pours_54 rfl ?_
            refine st_iconst (pc := 55) (v := (5 : Int32)) dX11_pours_55 rfl ?_
            obtain ⟨⟨hbq8, hkq8⟩, hq⟩ := mh_oi hq
            obtain ⟨q8, e8, hq⟩ := mh_ob hq
            refine st_invV (pc := 56) (ci := 11) (vs := [.int (5 : Int32)]) (rest := []) (st2 := [.int q8.1]) dX11_pours_56 okX11_error (by decide) hkq8 hbq8 wd_326 wd_328 wp_0 pdX11_error rfl rfl rfl rfl (Nat.le_trans (by decide) hd) (Nat.le_of_ble_eq_true rfl) (T_X11_error (Nat.le_refl _) e8) rfl ?_
            exact bd_iret (pc := 59) hq dX11_pours_59 rfl
          ·
            refine st_aload_n (pc := 60) dX11_pours_60 rfl ?_
            refine bd_getr (pc := 61) hq dX11_pours_61 fl_11_46_11 rfl (fun v8 hq => ?_)
            refine st_iload_n (pc := 64) dX11_pours_64 rfl ?_
            refine bd_iald (pc := 65) hq dX11_pours_65 (fun v9 hq => ?_)
            refine bd_if_ne (pc := 66) (tgt := 75) hq dX11_pours_66 (by decide) (fun _ hq => ?_) (fun _ hq => ?_)
            ·
              refine st_aload_n (pc := 69) dX11_pours_69 rfl ?_
              refine st_iconst (pc := 70) (v := (2 : Int32)) dX11_pours_70 rfl ?_
              obtain ⟨⟨hbq10, hkq10⟩, hq⟩ := mh_oi hq
              obtain ⟨q10, e10, hq⟩ := mh_ob hq
              refine st_invV (pc := 71) (ci := 11) (vs := [.int (2 : Int32)]) (rest := []) (st2 := [.int q10.1]) dX11_pours_71 okX11_error (by decide) hkq10 hbq10 wd_326 wd_328 wp_0 pdX11_error rfl rfl rfl rfl (Nat.le_trans (by decide) hd) (Nat.le_of_ble_eq_true rfl) (T_X11_error (Nat.le_refl _) e10) rfl ?_
              exact bd_iret (pc := 74) hq dX11_pours_74 rfl
            ·
              refine st_iconst (pc := 75) (v := (0 : Int32)) dX11_pours_75 rfl ?_
              refine st_istore (pc := 76) (lv' := [some (.ref l0), some (.int l1), some (.int l2), some (.int l3), some (.int l4), some (.int l5), some (.int (0 : Int32)), none, none]) dX11_pours_76 rfl (by decide) rfl ?_
              refine st_iconst (pc := 78) (v := (0 : Int32)) dX11_pours_78 rfl ?_
              refine st_istore (pc := 79) (lv' := [some (.ref l0), some (.int l1), some (.int l2), some (.int l3), some (.int l4), some (.int l5), some (.int (0 : Int32)), some (.int (0 : Int32)), none]) dX11_pours_79 rfl (by decide) rfl ?_
              exact T_X11_pours_81 hd N _ _ _ _ _ _ _ _ _ hq
-- HoleWater.grains(II)I
theorem dX11_grains_18 : decode cX11_grains 18 = .ok (.aload_n 0, 1) := by decide +kernel
theorem dX11_grains_19 : decode cX11_grains 19 = .ok (.iconst 1, 1) := by decide +kernel
theorem dX11_grains_20 : decode cX11_grains 20 = .ok (.invokevirtual 66, 3) := by decide +kernel
theorem dX11_grains_23 : decode cX11_grains 23 = .ok (.ireturn, 1) := by decide +kernel
theorem dX11_grains_0 : decode cX11_grains 0 = .ok (.aload_n 0, 1) := by decide +kernel
theorem dX11_grains_1 : decode cX11_grains 1 = .ok (.getfield 12, 3) := by decide +kernel
theorem dX11_grains_4 : decode cX11_grains 4 = .ok (.iload_n 1, 1) := by decide +kernel
theorem dX11_grains_5 : decode cX11_grains 5 = .ok (.invokevirtual 77, 3) := by decide +kernel
theorem dX11_grains_8 : decode cX11_grains 8 = .ok (.ifCond .eq 10, 3) := by decide +kernel
theorem dX11_grains_11 : decode cX11_grains 11 = .ok (.iload_n 2, 1) := by decide +kernel
theorem dX11_grains_12 : decode cX11_grains 12 = .ok (.invokestatic 183, 3) := by decide +kernel
theorem dX11_grains_15 : decode cX11_grains 15 = .ok (.ifCond .ne 9, 3) := by decide +kernel
theorem dX11_grains_24 : decode cX11_grains 24 = .ok (.aload_n 0, 1) := by decide +kernel
theorem dX11_grains_25 : decode cX11_grains 25 = .ok (.getfield 12, 3) := by decide +kernel
theorem dX11_grains_28 : decode cX11_grains 28 = .ok (.getfield 90, 3) := by decide +kernel
theorem dX11_grains_31 : decode cX11_grains 31 = .ok (.getfield 93, 3) := by decide +kernel
theorem dX11_grains_34 : decode cX11_grains 34 = .ok (.iload_n 1, 1) := by decide +kernel
theorem dX11_grains_35 : decode cX11_grains 35 = .ok (.iconst 5, 1) := by decide +kernel
theorem dX11_grains_36 : decode cX11_grains 36 = .ok (.imul, 1) := by decide +kernel
theorem dX11_grains_37 : decode cX11_grains 37 = .ok (.iconst 1, 1) := by decide +kernel
theorem dX11_grains_38 : decode cX11_grains 38 = .ok (.iadd, 1) := by decide +kernel
theorem dX11_grains_39 : decode cX11_grains 39 = .ok (.iload_n 2, 1) := by decide +kernel
theorem dX11_grains_40 : decode cX11_grains 40 = .ok (.iadd, 1) := by decide +kernel
theorem dX11_grains_41 : decode cX11_grains 41 = .ok (.iaload, 1) := by decide +kernel
theorem dX11_grains_42 : decode cX11_grains 42 = .ok (.ireturn, 1) := by decide +kernel
def D_X11_grains_18 (N : Nat) (h : mh_H) (l0 : Nat) : Option (Int32 × mh_H) :=
  kO h 11 l0 <|
  (D_X11_error N h l0 (1 : Int32)).bind fun q1 =>
  some (q1.1, q1.2)
set_option maxHeartbeats 4000000 in
set_option maxRecDepth 100000 in
theorem T_X11_grains_18 {P : mh_E → Prop} {N d : Nat} (hd : 3 ≤ d) {z : (Int32 × mh_H)} {h : mh_H} {l0 : Nat} (hq : D_X11_grains_18 N h l0 = some z) : mh_go P d mX11_grains 18 [some (.ref l0), none, none] [] h (some (.int z.1)) z.2 := by
  unfold D_X11_grains_18 at hq
  refine st_aload_n (pc := 18) dX11_grains_18 rfl ?_
  refine st_iconst (pc := 19) (v := (1 : Int32)) dX11_grains_19 rfl ?_
  obtain ⟨⟨hbq1, hkq1⟩, hq⟩ := mh_oi hq
  obtain ⟨q1, e1, hq⟩ := mh_ob hq
  refine st_invV (pc := 20) (ci := 11) (vs := [.int (1 : Int32)]) (rest := []) (st2 := [.int q1.1]) dX11_grains_20 okX11_error (by decide) hkq1 hbq1 wd_326 wd_328 wp_0 pdX11_error rfl rfl rfl rfl (Nat.le_trans (by decide) hd) (Nat.le_of_ble_eq_true rfl) (T_X11_error (Nat.le_refl _) e1) rfl ?_
  exact bd_iret (pc := 23) hq dX11_grains_23 rfl
def D_X11_grains (N : Nat) (h : mh_H) (l0 : Nat) (l1 : Int32) (l2 : Int32) : Option (Int32 × mh_H) :=
  (gR h 11 l0 0).bind fun v1 =>
  kO h 10 v1 <|
  (D_X10_isJoint N h v1 l1).bind fun q2 =>
  if q2.1 = 0 then (D_X11_grains_18 N q2.2 l0)
  else ((D_X11_isColour N q2.2 l2).bind fun q3 =>
  if q3.1 = 0 then (D_X11_grains_18 N q3.2 l0)
  else ((gR q3.2 11 l0 0).bind fun v4 =>
  (gR q3.2 10 v4 7).bind fun v5 =>
  (gR q3.2 8 v5 5).bind fun v6 =>
  (aI q3.2 v6 (((l1 * (5 : Int32)) + (1 : Int32)) + l2)).bind fun v7 =>
  some (v7, q3.2)))
set_option maxHeartbeats 4000000 in
set_option maxRecDepth 100000 in
theorem T_X11_grains {P : mh_E → Prop} {N d : Nat} (hd : 3 ≤ d) {z : (Int32 × mh_H)} {h : mh_H} {l0 : Nat} {l1 : Int32} {l2 : Int32} (hq : D_X11_grains N h l0 l1 l2 = some z) : mh_go P d mX11_grains 0 [some (.ref l0), some (.int l1), some (.int l2)] [] h (some (.int z.1)) z.2 := by
  unfold D_X11_grains at hq
  refine st_aload_n (pc := 0) dX11_grains_0 rfl ?_
  refine bd_getr (pc := 1) hq dX11_grains_1 fl_11_12_11 rfl (fun v1 hq => ?_)
  refine st_iload_n (pc := 4) dX11_grains_4 rfl ?_
  obtain ⟨⟨hbq2, hkq2⟩, hq⟩ := mh_oi hq
  obtain ⟨q2, e2, hq⟩ := mh_ob hq
  refine st_invV (pc := 5) (ci := 10) (vs := [.int l1]) (rest := []) (st2 := [.int q2.1]) dX11_grains_5 okX10_isJoint (by decide) hkq2 hbq2 wd_339 wd_340 wd_341 pdX10_isJoint rfl rfl rfl rfl (Nat.le_trans (by decide) hd) (Nat.le_of_ble_eq_true rfl) (T_X10_isJoint (Nat.le_refl _) e2) rfl ?_
  refine bd_if_eq (pc := 8) (tgt := 18) hq dX11_grains_8 (by decide) (fun _ hq => ?_) (fun _ hq => ?_)
  ·
    refine st_lesS (lv' := [some (.ref l0), none, none]) ⟨Or.inr rfl, Or.inl rfl, Or.inl rfl, trivial⟩ ?_
    exact T_X11_grains_18 hd hq
  ·
    refine st_iload_n (pc := 11) dX11_grains_11 rfl ?_
    obtain ⟨q3, e3, hq⟩ := mh_ob hq
    refine st_invS (pc := 12) (Y := mX11_isColour) (vs := [.int l2]) (rest := []) (st2 := [.int q3.1]) dX11_grains_12 okX11_isColour wd_506 wd_507 pdX11_isColour rfl rfl rfl rfl (Nat.le_trans (by decide) hd) (Nat.le_of_ble_eq_true rfl) (T_X11_isColour (Nat.le_refl _) e3) rfl ?_
    refine bd_if_ne (pc := 15) (tgt := 24) hq dX11_grains_15 (by decide) (fun _ hq => ?_) (fun _ hq => ?_)
    ·
      refine st_lesS (lv' := [some (.ref l0), none, none]) ⟨Or.inr rfl, Or.inl rfl, Or.inl rfl, trivial⟩ ?_
      exact T_X11_grains_18 hd hq
    ·
      refine st_aload_n (pc := 24) dX11_grains_24 rfl ?_
      refine bd_getr (pc := 25) hq dX11_grains_25 fl_11_12_11 rfl (fun v4 hq => ?_)
      refine bd_getr (pc := 28) hq dX11_grains_28 fl_11_90_10 rfl (fun v5 hq => ?_)
      refine bd_getr (pc := 31) hq dX11_grains_31 fl_11_93_8 rfl (fun v6 hq => ?_)
      refine st_iload_n (pc := 34) dX11_grains_34 rfl ?_
      refine st_iconst (pc := 35) (v := (5 : Int32)) dX11_grains_35 rfl ?_
      refine st_imul (pc := 36) dX11_grains_36 ?_
      refine st_iconst (pc := 37) (v := (1 : Int32)) dX11_grains_37 rfl ?_
      refine st_iadd (pc := 38) dX11_grains_38 ?_
      refine st_iload_n (pc := 39) dX11_grains_39 rfl ?_
      refine st_iadd (pc := 40) dX11_grains_40 ?_
      refine bd_iald (pc := 41) hq dX11_grains_41 (fun v7 hq => ?_)
      exact bd_iret (pc := 42) hq dX11_grains_42 rfl
