-- HoleWaterModel.one()V
theorem dX12_one_74 : decode cX12_one 74 = .ok (.aload_n 0, 1) := by decide +kernel
theorem dX12_one_75 : decode cX12_one 75 = .ok (.iload_n 2, 1) := by decide +kernel
theorem dX12_one_76 : decode cX12_one 76 = .ok (.invokevirtual 218, 3) := by decide +kernel
theorem dX12_one_79 : decode cX12_one 79 = .ok (.goto 117, 3) := by decide +kernel
theorem dX12_one_196 : decode cX12_one 196 = .ok (.return_, 1) := by decide +kernel
theorem dX12_one_23 : decode cX12_one 23 = .ok (.iload_n 3, 1) := by decide +kernel
theorem dX12_one_24 : decode cX12_one 24 = .ok (.iconst 3, 1) := by decide +kernel
theorem dX12_one_25 : decode cX12_one 25 = .ok (.if_icmp .ge 49, 3) := by decide +kernel
theorem dX12_one_28 : decode cX12_one 28 = .ok (.aload_n 0, 1) := by decide +kernel
theorem dX12_one_29 : decode cX12_one 29 = .ok (.invokevirtual 207, 3) := by decide +kernel
theorem dX12_one_32 : decode cX12_one 32 = .ok (.i2l, 1) := by decide +kernel
theorem dX12_one_33 : decode cX12_one 33 = .ok (.ldc2_w 214, 3) := by decide +kernel
theorem dX12_one_36 : decode cX12_one 36 = .ok (.ldc2_w 216, 3) := by decide +kernel
theorem dX12_one_39 : decode cX12_one 39 = .ok (.invokestatic 65, 3) := by decide +kernel
theorem dX12_one_42 : decode cX12_one 42 = .ok (.ifCond .eq 32, 3) := by decide +kernel
theorem dX12_one_45 : decode cX12_one 45 = .ok (.bipush 10, 2) := by decide +kernel
theorem dX12_one_47 : decode cX12_one 47 = .ok (.iload_n 2, 1) := by decide +kernel
theorem dX12_one_48 : decode cX12_one 48 = .ok (.imul, 1) := by decide +kernel
theorem dX12_one_49 : decode cX12_one 49 = .ok (.aload_n 0, 1) := by decide +kernel
theorem dX12_one_50 : decode cX12_one 50 = .ok (.invokevirtual 207, 3) := by decide +kernel
theorem dX12_one_53 : decode cX12_one 53 = .ok (.iadd, 1) := by decide +kernel
theorem dX12_one_54 : decode cX12_one 54 = .ok (.bipush 48, 2) := by decide +kernel
theorem dX12_one_56 : decode cX12_one 56 = .ok (.isub, 1) := by decide +kernel
theorem dX12_one_57 : decode cX12_one 57 = .ok (.istore_n 2, 1) := by decide +kernel
theorem dX12_one_58 : decode cX12_one 58 = .ok (.aload_n 0, 1) := by decide +kernel
theorem dX12_one_59 : decode cX12_one 59 = .ok (.dup, 1) := by decide +kernel
theorem dX12_one_60 : decode cX12_one 60 = .ok (.getfield 203, 3) := by decide +kernel
theorem dX12_one_63 : decode cX12_one 63 = .ok (.iconst 1, 1) := by decide +kernel
theorem dX12_one_64 : decode cX12_one 64 = .ok (.iadd, 1) := by decide +kernel
theorem dX12_one_65 : decode cX12_one 65 = .ok (.putfield 203, 3) := by decide +kernel
theorem dX12_one_68 : decode cX12_one 68 = .ok (.iinc 3 1, 3) := by decide +kernel
theorem dX12_one_71 : decode cX12_one 71 = .ok (.goto (-48), 3) := by decide +kernel
theorem dX12_one_175 : decode cX12_one 175 = .ok (.putfield 199, 3) := by decide +kernel
theorem dX12_one_178 : decode cX12_one 178 = .ok (.aload_n 0, 1) := by decide +kernel
theorem dX12_one_179 : decode cX12_one 179 = .ok (.dup, 1) := by decide +kernel
theorem dX12_one_180 : decode cX12_one 180 = .ok (.getfield 226, 3) := by decide +kernel
theorem dX12_one_183 : decode cX12_one 183 = .ok (.iconst 1, 1) := by decide +kernel
theorem dX12_one_184 : decode cX12_one 184 = .ok (.isub, 1) := by decide +kernel
theorem dX12_one_185 : decode cX12_one 185 = .ok (.putfield 226, 3) := by decide +kernel
theorem dX12_one_188 : decode cX12_one 188 = .ok (.goto 8, 3) := by decide +kernel
theorem dX12_one_0 : decode cX12_one 0 = .ok (.aload_n 0, 1) := by decide +kernel
theorem dX12_one_1 : decode cX12_one 1 = .ok (.invokevirtual 207, 3) := by decide +kernel
theorem dX12_one_4 : decode cX12_one 4 = .ok (.istore_n 1, 1) := by decide +kernel
theorem dX12_one_5 : decode cX12_one 5 = .ok (.iload_n 1, 1) := by decide +kernel
theorem dX12_one_6 : decode cX12_one 6 = .ok (.i2l, 1) := by decide +kernel
theorem dX12_one_7 : decode cX12_one 7 = .ok (.ldc2_w 214, 3) := by decide +kernel
theorem dX12_one_10 : decode cX12_one 10 = .ok (.ldc2_w 216, 3) := by decide +kernel
theorem dX12_one_13 : decode cX12_one 13 = .ok (.invokestatic 65, 3) := by decide +kernel
theorem dX12_one_16 : decode cX12_one 16 = .ok (.ifCond .eq 66, 3) := by decide +kernel
theorem dX12_one_82 : decode cX12_one 82 = .ok (.aload_n 0, 1) := by decide +kernel
theorem dX12_one_83 : decode cX12_one 83 = .ok (.getfield 220, 3) := by decide +kernel
theorem dX12_one_86 : decode cX12_one 86 = .ok (.iload_n 1, 1) := by decide +kernel
theorem dX12_one_87 : decode cX12_one 87 = .ok (.invokestatic 223, 3) := by decide +kernel
theorem dX12_one_90 : decode cX12_one 90 = .ok (.ifCond .lt 32, 3) := by decide +kernel
theorem dX12_one_122 : decode cX12_one 122 = .ok (.iload_n 1, 1) := by decide +kernel
theorem dX12_one_123 : decode cX12_one 123 = .ok (.bipush 40, 2) := by decide +kernel
theorem dX12_one_125 : decode cX12_one 125 = .ok (.if_icmp .ne 66, 3) := by decide +kernel
theorem dX12_one_128 : decode cX12_one 128 = .ok (.aload_n 0, 1) := by decide +kernel
theorem dX12_one_129 : decode cX12_one 129 = .ok (.getfield 226, 3) := by decide +kernel
theorem dX12_one_132 : decode cX12_one 132 = .ok (.iconst 4, 1) := by decide +kernel
theorem dX12_one_133 : decode cX12_one 133 = .ok (.if_icmp .ge 58, 3) := by decide +kernel
theorem dX12_one_191 : decode cX12_one 191 = .ok (.aload_n 0, 1) := by decide +kernel
theorem dX12_one_192 : decode cX12_one 192 = .ok (.iconst 1, 1) := by decide +kernel
theorem dX12_one_193 : decode cX12_one 193 = .ok (.putfield 199, 3) := by decide +kernel
theorem dX12_one_136 : decode cX12_one 136 = .ok (.aload_n 0, 1) := by decide +kernel
theorem dX12_one_137 : decode cX12_one 137 = .ok (.dup, 1) := by decide +kernel
theorem dX12_one_138 : decode cX12_one 138 = .ok (.getfield 203, 3) := by decide +kernel
theorem dX12_one_141 : decode cX12_one 141 = .ok (.iconst 1, 1) := by decide +kernel
theorem dX12_one_142 : decode cX12_one 142 = .ok (.iadd, 1) := by decide +kernel
theorem dX12_one_143 : decode cX12_one 143 = .ok (.putfield 203, 3) := by decide +kernel
theorem dX12_one_146 : decode cX12_one 146 = .ok (.aload_n 0, 1) := by decide +kernel
theorem dX12_one_147 : decode cX12_one 147 = .ok (.dup, 1) := by decide +kernel
theorem dX12_one_148 : decode cX12_one 148 = .ok (.getfield 226, 3) := by decide +kernel
theorem dX12_one_151 : decode cX12_one 151 = .ok (.iconst 1, 1) := by decide +kernel
theorem dX12_one_152 : decode cX12_one 152 = .ok (.iadd, 1) := by decide +kernel
theorem dX12_one_153 : decode cX12_one 153 = .ok (.putfield 226, 3) := by decide +kernel
theorem dX12_one_156 : decode cX12_one 156 = .ok (.aload_n 0, 1) := by decide +kernel
theorem dX12_one_157 : decode cX12_one 157 = .ok (.invokevirtual 229, 3) := by decide +kernel
theorem dX12_one_160 : decode cX12_one 160 = .ok (.aload_n 0, 1) := by decide +kernel
theorem dX12_one_161 : decode cX12_one 161 = .ok (.aload_n 0, 1) := by decide +kernel
theorem dX12_one_162 : decode cX12_one 162 = .ok (.bipush 41, 2) := by decide +kernel
theorem dX12_one_164 : decode cX12_one 164 = .ok (.invokevirtual 232, 3) := by decide +kernel
theorem dX12_one_167 : decode cX12_one 167 = .ok (.ifCond .ne 7, 3) := by decide +kernel
theorem dX12_one_170 : decode cX12_one 170 = .ok (.iconst 1, 1) := by decide +kernel
theorem dX12_one_171 : decode cX12_one 171 = .ok (.goto 4, 3) := by decide +kernel
theorem dX12_one_174 : decode cX12_one 174 = .ok (.iconst 0, 1) := by decide +kernel
theorem dX12_one_93 : decode cX12_one 93 = .ok (.aload_n 0, 1) := by decide +kernel
theorem dX12_one_94 : decode cX12_one 94 = .ok (.dup, 1) := by decide +kernel
theorem dX12_one_95 : decode cX12_one 95 = .ok (.getfield 203, 3) := by decide +kernel
theorem dX12_one_98 : decode cX12_one 98 = .ok (.iconst 1, 1) := by decide +kernel
theorem dX12_one_99 : decode cX12_one 99 = .ok (.iadd, 1) := by decide +kernel
theorem dX12_one_100 : decode cX12_one 100 = .ok (.putfield 203, 3) := by decide +kernel
theorem dX12_one_103 : decode cX12_one 103 = .ok (.aload_n 0, 1) := by decide +kernel
theorem dX12_one_104 : decode cX12_one 104 = .ok (.sipush 1000, 3) := by decide +kernel
theorem dX12_one_107 : decode cX12_one 107 = .ok (.aload_n 0, 1) := by decide +kernel
theorem dX12_one_108 : decode cX12_one 108 = .ok (.getfield 220, 3) := by decide +kernel
theorem dX12_one_111 : decode cX12_one 111 = .ok (.iload_n 1, 1) := by decide +kernel
theorem dX12_one_112 : decode cX12_one 112 = .ok (.invokestatic 223, 3) := by decide +kernel
theorem dX12_one_115 : decode cX12_one 115 = .ok (.iadd, 1) := by decide +kernel
theorem dX12_one_116 : decode cX12_one 116 = .ok (.invokevirtual 218, 3) := by decide +kernel
theorem dX12_one_119 : decode cX12_one 119 = .ok (.goto 77, 3) := by decide +kernel
theorem dX12_one_19 : decode cX12_one 19 = .ok (.iconst 0, 1) := by decide +kernel
theorem dX12_one_20 : decode cX12_one 20 = .ok (.istore_n 2, 1) := by decide +kernel
theorem dX12_one_21 : decode cX12_one 21 = .ok (.iconst 0, 1) := by decide +kernel
theorem dX12_one_22 : decode cX12_one 22 = .ok (.istore_n 3, 1) := by decide +kernel
def D_X12_one_74 (N : Nat) (kB : mh_H → Nat → Option mh_H) (h : mh_H) (l0 : Nat) (l2 : Int32) : Option mh_H :=
  kO h 12 l0 <|
  (D_X12_puts_ N h l0 l2).bind fun q1 =>
  some q1
set_option maxHeartbeats 4000000 in
set_option maxRecDepth 100000 in
theorem T_X12_one_74 {P : mh_E → Prop} {N d : Nat} (hd : 3 ≤ d) {kB : mh_H → Nat → Option mh_H} {dB : Nat} (hdB : dB + 1 ≤ d) (hB : ∀ (h : mh_H) (x0 : Nat) (z : mh_H), kB h x0 = some z → mh_go P dB mX12_sum 0 [some (.ref x0), none] [] h none z) {z : mh_H} {h : mh_H} {l0 : Nat} {l2 : Int32} (hq : D_X12_one_74 N kB h l0 l2 = some z) : mh_go P d mX12_one 74 [some (.ref l0), none, some (.int l2), none] [] h none z := by
  unfold D_X12_one_74 at hq
  refine st_aload_n (pc := 74) dX12_one_74 rfl ?_
  refine st_iload_n (pc := 75) dX12_one_75 rfl ?_
  obtain ⟨⟨hbq1, hkq1⟩, hq⟩ := mh_oi hq
  obtain ⟨q1, e1, hq⟩ := mh_ob hq
  refine st_invV (pc := 76) (ci := 12) (vs := [.int l2]) (rest := []) (st2 := []) dX12_one_76 okX12_puts_ (by decide) hkq1 hbq1 wd_1521 wd_1523 wp_70 pdX12_puts_ rfl rfl rfl rfl (Nat.le_trans (by decide) hd) (Nat.le_of_ble_eq_true rfl) (T_X12_puts_ (Nat.le_refl _) e1) rfl ?_
  refine st_goto (pc := 79) (tgt := 196) dX12_one_79 (by decide) ?_
  exact bd_vret (pc := 196) hq dX12_one_196 rfl
def D_X12_one_23 (N : Nat) (kB : mh_H → Nat → Option mh_H) : Nat → mh_H → Nat → Int32 → Int32 → Option mh_H
  | 0, _, _, _, _ => none
  | F + 1, h, l0, l2, l3 =>
    if (3 : Int32) ≤ l3 then (D_X12_one_74 N kB h l0 l2)
    else (kO h 12 l0 <|
    (D_X12_here N h l0).bind fun q1 =>
    (D_X12_in N q1.2 q1.1.toInt64 (48 : Int64) (57 : Int64)).bind fun q2 =>
    if q2.1 = 0 then (D_X12_one_74 N kB q2.2 l0 l2)
    else (kO q2.2 12 l0 <|
    (D_X12_here N q2.2 l0).bind fun q3 =>
    mh_let ((((10 : Int32) * l2) + q3.1) - (48 : Int32)) fun v4 =>
    (gI q3.2 12 l0 11).bind fun v5 =>
    (pI q3.2 12 l0 11 (v5 + (1 : Int32))).bind fun h6 =>
    (D_X12_one_23 N kB F) h6 l0 v4 (l3 + Int32.ofInt (1))))
set_option maxHeartbeats 4000000 in
set_option maxRecDepth 100000 in
theorem T_X12_one_23 {P : mh_E → Prop} {N d : Nat} (hd : 3 ≤ d) {kB : mh_H → Nat → Option mh_H} {dB : Nat} (hdB : dB + 1 ≤ d) (hB : ∀ (h : mh_H) (x0 : Nat) (z : mh_H), kB h x0 = some z → mh_go P dB mX12_sum 0 [some (.ref x0), none] [] h none z) {z : mh_H} : ∀ (F : Nat) (h : mh_H) (l0 : Nat) (l2 : Int32) (l3 : Int32), D_X12_one_23 N kB F h l0 l2 l3 = some z → mh_go P d mX12_one 23 [some (.ref l0), none, some (.int l2), some (.int l3)] [] h none z := by
  intro F
  induction F with
  | zero => intro h l0 l2 l3 hq; rw [D_X12_one_23] at hq; cases hq
  | succ F ih =>
    intro h l0 l2 l3 hq
    rw [D_X12_one_23] at hq
    refine st_iload_n (pc := 23) dX12_one_23 rfl ?_
    refine st_iconst (pc := 24) (v := (3 : Int32)) dX12_one_24 rfl ?_
    refine bd_icmp_ge (pc := 25) (tgt := 74) hq dX12_one_25 (by decide) (fun _ hq => ?_) (fun _ hq => ?_)
    ·
      refine st_lesS (lv' := [some (.ref l0), none, some (.int l2), none]) ⟨Or.inr rfl, Or.inr rfl, Or.inr rfl, Or.inl rfl, trivial⟩ ?_
      exact T_X12_one_74 hd hdB hB hq
    ·
      refine st_aload_n (pc := 28) dX12_one_28 rfl ?_
      obtain ⟨⟨hbq1, hkq1⟩, hq⟩ := mh_oi hq
      obtain ⟨q1, e1, hq⟩ := mh_ob hq
      refine st_invV (pc := 29) (ci := 12) (vs := []) (rest := []) (st2 := [.int q1.1]) dX12_one_29 okX12_here (by decide) hkq1 hbq1 wd_1515 wd_1517 wp_69 pdX12_here rfl rfl rfl rfl (Nat.le_trans (by decide) hd) (Nat.le_of_ble_eq_true rfl) (T_X12_here (Nat.le_refl _) e1) rfl ?_
      refine st_i2l (pc := 32) dX12_one_32 ?_
      refine st_ldc2 (pc := 33) (v := (48 : Int64)) dX12_one_33 wd_1519 ?_
      refine st_ldc2 (pc := 36) (v := (57 : Int64)) dX12_one_36 wd_1520 ?_
      obtain ⟨q2, e2, hq⟩ := mh_ob hq
      refine st_invS (pc := 39) (Y := mX12_in) (vs := [.long q1.1.toInt64, .long (48 : Int64), .long (57 : Int64)]) (rest := []) (st2 := [.int q2.1]) dX12_one_39 okX12_in wd_1270 wd_1271 pdX12_in rfl rfl rfl rfl (Nat.le_trans (by decide) hd) (Nat.le_of_ble_eq_true rfl) (T_X12_in (Nat.le_refl _) e2) rfl ?_
      refine bd_if_eq (pc := 42) (tgt := 74) hq dX12_one_42 (by decide) (fun _ hq => ?_) (fun _ hq => ?_)
      ·
        refine st_lesS (lv' := [some (.ref l0), none, some (.int l2), none]) ⟨Or.inr rfl, Or.inr rfl, Or.inr rfl, Or.inl rfl, trivial⟩ ?_
        exact T_X12_one_74 hd hdB hB hq
      ·
        refine st_bipush (pc := 45) (v := (10 : Int32)) dX12_one_45 (by decide) ?_
        refine st_iload_n (pc := 47) dX12_one_47 rfl ?_
        refine st_imul (pc := 48) dX12_one_48 ?_
        refine st_aload_n (pc := 49) dX12_one_49 rfl ?_
        obtain ⟨⟨hbq3, hkq3⟩, hq⟩ := mh_oi hq
        obtain ⟨q3, e3, hq⟩ := mh_ob hq
        refine st_invV (pc := 50) (ci := 12) (vs := []) (rest := [.int ((10 : Int32) * l2)]) (st2 := [.int q3.1, .int ((10 : Int32) * l2)]) dX12_one_50 okX12_here (by decide) hkq3 hbq3 wd_1515 wd_1517 wp_69 pdX12_here rfl rfl rfl rfl (Nat.le_trans (by decide) hd) (Nat.le_of_ble_eq_true rfl) (T_X12_here (Nat.le_refl _) e3) rfl ?_
        refine st_iadd (pc := 53) dX12_one_53 ?_
        refine st_bipush (pc := 54) (v := (48 : Int32)) dX12_one_54 (by decide) ?_
        refine st_isub (pc := 56) dX12_one_56 ?_
        refine bd_leti hq (fun v4 hq => ?_)
        refine st_istore_n (pc := 57) (lv' := [some (.ref l0), none, some (.int v4), some (.int l3)]) dX12_one_57 rfl (by decide) rfl ?_
        refine st_aload_n (pc := 58) dX12_one_58 rfl ?_
        refine st_dup (pc := 59) dX12_one_59 rfl ?_
        refine bd_geti (pc := 60) hq dX12_one_60 fl_12_203_12 rfl (fun v5 hq => ?_)
        refine st_iconst (pc := 63) (v := (1 : Int32)) dX12_one_63 rfl ?_
        refine st_iadd (pc := 64) dX12_one_64 ?_
        refine bd_puti (pc := 65) hq dX12_one_65 fl_12_203_12 (Or.inl rfl) rfl (fun h6 hq => ?_)
        refine st_iinc (pc := 68) (lv' := [some (.ref l0), none, some (.int v4), some (.int (l3 + Int32.ofInt (1)))]) dX12_one_68 rfl rfl (by decide) rfl ?_
        refine st_goto (pc := 71) (tgt := 23) dX12_one_71 (by decide) ?_
        exact ih _ _ _ _ hq
def D_X12_one_175 (N : Nat) (kB : mh_H → Nat → Option mh_H) (h : mh_H) (l0 : Nat) (s0 : Nat) (s1 : Int32) : Option mh_H :=
  (pB h 12 s0 14 s1).bind fun h1 =>
  (gI h1 12 l0 12).bind fun v2 =>
  (pI h1 12 l0 12 (v2 - (1 : Int32))).bind fun h3 =>
  some h3
set_option maxHeartbeats 4000000 in
set_option maxRecDepth 100000 in
theorem T_X12_one_175 {P : mh_E → Prop} {N d : Nat} (hd : 3 ≤ d) {kB : mh_H → Nat → Option mh_H} {dB : Nat} (hdB : dB + 1 ≤ d) (hB : ∀ (h : mh_H) (x0 : Nat) (z : mh_H), kB h x0 = some z → mh_go P dB mX12_sum 0 [some (.ref x0), none] [] h none z) {z : mh_H} {h : mh_H} {l0 : Nat} {s0 : Nat} {s1 : Int32} (hq : D_X12_one_175 N kB h l0 s0 s1 = some z) : mh_go P d mX12_one 175 [some (.ref l0), none, none, none] [.int s1, .ref s0] h none z := by
  unfold D_X12_one_175 at hq
  refine bd_putb (pc := 175) hq dX12_one_175 fl_12_199_12 (Or.inl rfl) rfl (fun h1 hq => ?_)
  refine st_aload_n (pc := 178) dX12_one_178 rfl ?_
  refine st_dup (pc := 179) dX12_one_179 rfl ?_
  refine bd_geti (pc := 180) hq dX12_one_180 fl_12_226_12 rfl (fun v2 hq => ?_)
  refine st_iconst (pc := 183) (v := (1 : Int32)) dX12_one_183 rfl ?_
  refine st_isub (pc := 184) dX12_one_184 ?_
  refine bd_puti (pc := 185) hq dX12_one_185 fl_12_226_12 (Or.inl rfl) rfl (fun h3 hq => ?_)
  refine st_goto (pc := 188) (tgt := 196) dX12_one_188 (by decide) ?_
  exact bd_vret (pc := 196) hq dX12_one_196 rfl
def D_X12_one (N : Nat) (kB : mh_H → Nat → Option mh_H) (h : mh_H) (l0 : Nat) : Option mh_H :=
  kO h 12 l0 <|
  (D_X12_here N h l0).bind fun q1 =>
  (D_X12_in N q1.2 q1.1.toInt64 (48 : Int64) (57 : Int64)).bind fun q2 =>
  if q2.1 = 0 then ((gI q2.2 12 l0 13).bind fun v3 =>
  (D_X12_nameOf N q2.2 v3 q1.1).bind fun q4 =>
  if q4.1 < 0 then (if q1.1 = (40 : Int32) then ((gI q4.2 12 l0 12).bind fun v5 =>
  if (4 : Int32) ≤ v5 then ((pB q4.2 12 l0 14 (1 : Int32)).bind fun h6 =>
  some h6)
  else ((gI q4.2 12 l0 11).bind fun v6 =>
  (pI q4.2 12 l0 11 (v6 + (1 : Int32))).bind fun h7 =>
  (gI h7 12 l0 12).bind fun v8 =>
  (pI h7 12 l0 12 (v8 + (1 : Int32))).bind fun h9 =>
  kO h9 12 l0 <|
  (kB h9 l0).bind fun q10 =>
  kO q10 12 l0 <|
  (D_X12_takes_ N q10 l0 (41 : Int32)).bind fun q11 =>
  if q11.1 = 0 then (D_X12_one_175 N kB q11.2 l0 l0 (1 : Int32))
  else (D_X12_one_175 N kB q11.2 l0 l0 (0 : Int32))))
  else ((pB q4.2 12 l0 14 (1 : Int32)).bind fun h5 =>
  some h5))
  else ((gI q4.2 12 l0 11).bind fun v5 =>
  (pI q4.2 12 l0 11 (v5 + (1 : Int32))).bind fun h6 =>
  (gI h6 12 l0 13).bind fun v7 =>
  (D_X12_nameOf N h6 v7 q1.1).bind fun q8 =>
  kO q8.2 12 l0 <|
  (D_X12_puts_ N q8.2 l0 ((1000 : Int32) + q8.1)).bind fun q9 =>
  some q9))
  else (D_X12_one_23 N kB N q2.2 l0 (0 : Int32) (0 : Int32))
set_option maxHeartbeats 4000000 in
set_option maxRecDepth 100000 in
theorem T_X12_one {P : mh_E → Prop} {N d : Nat} (hd : 3 ≤ d) {kB : mh_H → Nat → Option mh_H} {dB : Nat} (hdB : dB + 1 ≤ d) (hB : ∀ (h : mh_H) (x0 : Nat) (z : mh_H), kB h x0 = some z → mh_go P dB mX12_sum 0 [some (.ref x0), none] [] h none z) {z : mh_H} {h : mh_H} {l0 : Nat} (hq : D_X12_one N kB h l0 = some z) : mh_go P d mX12_one 0 [some (.ref l0), none, none, none] [] h none z := by
  unfold D_X12_one at hq
  refine st_aload_n (pc := 0) dX12_one_0 rfl ?_
  obtain ⟨⟨hbq1, hkq1⟩, hq⟩ := mh_oi hq
  obtain ⟨q1, e1, hq⟩ := mh_ob hq
  refine st_invV (pc := 1) (ci := 12) (vs := []) (rest := []) (st2 := [.int q1.1]) dX12_one_1 okX12_here (by decide) hkq1 hbq1 wd_1515 wd_1517 wp_69 pdX12_here rfl rfl rfl rfl (Nat.le_trans (by decide) hd) (Nat.le_of_ble_eq_true rfl) (T_X12_here (Nat.le_refl _) e1) rfl ?_
  refine st_istore_n (pc := 4) (lv' := [some (.ref l0), some (.int q1.1), none, none]) dX12_one_4 rfl (by decide) rfl ?_
  refine st_iload_n (pc := 5) dX12_one_5 rfl ?_
  refine st_i2l (pc := 6) dX12_one_6 ?_
  refine st_ldc2 (pc := 7) (v := (48 : Int64)) dX12_one_7 wd_1519 ?_
  refine st_ldc2 (pc := 10) (v := (57 : Int64)) dX12_one_10 wd_1520 ?_
  obtain ⟨q2, e2, hq⟩ := mh_ob hq
  refine st_invS (pc := 13) (Y := mX12_in) (vs := [.long q1.1.toInt64, .long (48 : Int64), .long (57 : Int64)]) (rest := []) (st2 := [.int q2.1]) dX12_one_13 okX12_in wd_1270 wd_1271 pdX12_in rfl rfl rfl rfl (Nat.le_trans (by decide) hd) (Nat.le_of_ble_eq_true rfl) (T_X12_in (Nat.le_refl _) e2) rfl ?_
  refine bd_if_eq (pc := 16) (tgt := 82) hq dX12_one_16 (by decide) (fun _ hq => ?_) (fun _ hq => ?_)
  ·
    refine st_aload_n (pc := 82) dX12_one_82 rfl ?_
    refine bd_geti (pc := 83) hq dX12_one_83 fl_12_220_12 rfl (fun v3 hq => ?_)
    refine st_iload_n (pc := 86) dX12_one_86 rfl ?_
    obtain ⟨q4, e4, hq⟩ := mh_ob hq
    refine st_invS (pc := 87) (Y := mX12_nameOf) (vs := [.int v3, .int q1.1]) (rest := []) (st2 := [.int q4.1]) dX12_one_87 okX12_nameOf wd_1525 wd_1526 pdX12_nameOf rfl rfl rfl rfl (Nat.le_trans (by decide) hd) (Nat.le_of_ble_eq_true rfl) (T_X12_nameOf (Nat.le_refl _) e4) rfl ?_
    refine bd_if_lt (pc := 90) (tgt := 122) hq dX12_one_90 (by decide) (fun _ hq => ?_) (fun _ hq => ?_)
    ·
      refine st_iload_n (pc := 122) dX12_one_122 rfl ?_
      refine st_bipush (pc := 123) (v := (40 : Int32)) dX12_one_123 (by decide) ?_
      refine bd_icmp_ne (pc := 125) (tgt := 191) hq dX12_one_125 (by decide) (fun _ hq => ?_) (fun _ hq => ?_)
      ·
        refine st_aload_n (pc := 128) dX12_one_128 rfl ?_
        refine bd_geti (pc := 129) hq dX12_one_129 fl_12_226_12 rfl (fun v5 hq => ?_)
        refine st_iconst (pc := 132) (v := (4 : Int32)) dX12_one_132 rfl ?_
        refine bd_icmp_ge (pc := 133) (tgt := 191) hq dX12_one_133 (by decide) (fun _ hq => ?_) (fun _ hq => ?_)
        ·
          refine st_aload_n (pc := 191) dX12_one_191 rfl ?_
          refine st_iconst (pc := 192) (v := (1 : Int32)) dX12_one_192 rfl ?_
          refine bd_putb (pc := 193) hq dX12_one_193 fl_12_199_12 (Or.inl rfl) rfl (fun h6 hq => ?_)
          exact bd_vret (pc := 196) hq dX12_one_196 rfl
        ·
          refine st_aload_n (pc := 136) dX12_one_136 rfl ?_
          refine st_dup (pc := 137) dX12_one_137 rfl ?_
          refine bd_geti (pc := 138) hq dX12_one_138 fl_12_203_12 rfl (fun v6 hq => ?_)
          refine st_iconst (pc := 141) (v := (1 : Int32)) dX12_one_141 rfl ?_
          refine st_iadd (pc := 142) dX12_one_142 ?_
          refine bd_puti (pc := 143) hq dX12_one_143 fl_12_203_12 (Or.inl rfl) rfl (fun h7 hq => ?_)
          refine st_aload_n (pc := 146) dX12_one_146 rfl ?_
          refine st_dup (pc := 147) dX12_one_147 rfl ?_
          refine bd_geti (pc := 148) hq dX12_one_148 fl_12_226_12 rfl (fun v8 hq => ?_)
          refine st_iconst (pc := 151) (v := (1 : Int32)) dX12_one_151 rfl ?_
          refine st_iadd (pc := 152) dX12_one_152 ?_
          refine bd_puti (pc := 153) hq dX12_one_153 fl_12_226_12 (Or.inl rfl) rfl (fun h9 hq => ?_)
          refine st_aload_n (pc := 156) dX12_one_156 rfl ?_
          obtain ⟨⟨hbq10, hkq10⟩, hq⟩ := mh_oi hq
          obtain ⟨q10, e10, hq⟩ := mh_ob hq
          refine st_invV (pc := 157) (ci := 12) (vs := []) (rest := []) (st2 := []) dX12_one_157 okX12_sum (by decide) hkq10 hbq10 wd_1503 wd_1505 wp_66 pdX12_sum rfl rfl rfl rfl (by omega) (Nat.le_of_ble_eq_true rfl) (hB _ _ _ e10) rfl ?_
          refine st_aload_n (pc := 160) dX12_one_160 rfl ?_
          refine st_aload_n (pc := 161) dX12_one_161 rfl ?_
          refine st_bipush (pc := 162) (v := (41 : Int32)) dX12_one_162 (by decide) ?_
          obtain ⟨⟨hbq11, hkq11⟩, hq⟩ := mh_oi hq
          obtain ⟨q11, e11, hq⟩ := mh_ob hq
          refine st_invV (pc := 164) (ci := 12) (vs := [.int (41 : Int32)]) (rest := [.ref l0]) (st2 := [.int q11.1, .ref l0]) dX12_one_164 okX12_takes_ (by decide) hkq11 hbq11 wd_1528 wd_1530 wp_71 pdX12_takes_ rfl rfl rfl rfl (Nat.le_trans (by decide) hd) (Nat.le_of_ble_eq_true rfl) (T_X12_takes_ (Nat.le_refl _) e11) rfl ?_
          refine bd_if_ne (pc := 167) (tgt := 174) hq dX12_one_167 (by decide) (fun _ hq => ?_) (fun _ hq => ?_)
          ·
            refine st_iconst (pc := 170) (v := (1 : Int32)) dX12_one_170 rfl ?_
            refine st_goto (pc := 171) (tgt := 175) dX12_one_171 (by decide) ?_
            refine st_lesS (lv' := [some (.ref l0), none, none, none]) ⟨Or.inr rfl, Or.inl rfl, Or.inr rfl, Or.inr rfl, trivial⟩ ?_
            exact T_X12_one_175 hd hdB hB hq
          ·
            refine st_iconst (pc := 174) (v := (0 : Int32)) dX12_one_174 rfl ?_
            refine st_lesS (lv' := [some (.ref l0), none, none, none]) ⟨Or.inr rfl, Or.inl rfl, Or.inr rfl, Or.inr rfl, trivial⟩ ?_
            exact T_X12_one_175 hd hdB hB hq
      ·
        refine st_aload_n (pc := 191) dX12_one_191 rfl ?_
        refine st_iconst (pc := 192) (v := (1 : Int32)) dX12_one_192 rfl ?_
        refine bd_putb (pc := 193) hq dX12_one_193 fl_12_199_12 (Or.inl rfl) rfl (fun h5 hq => ?_)
        exact bd_vret (pc := 196) hq dX12_one_196 rfl
    ·
      refine st_aload_n (pc := 93) dX12_one_93 rfl ?_
      refine st_dup (pc := 94) dX12_one_94 rfl ?_
      refine bd_geti (pc := 95) hq dX12_one_95 fl_12_203_12 rfl (fun v5 hq => ?_)
      refine st_iconst (pc := 98) (v := (1 : Int32)) dX12_one_98 rfl ?_
      refine st_iadd (pc := 99) dX12_one_99 ?_
      refine bd_puti (pc := 100) hq dX12_one_100 fl_12_203_12 (Or.inl rfl) rfl (fun h6 hq => ?_)
      refine st_aload_n (pc := 103) dX12_one_103 rfl ?_
      refine st_sipush (pc := 104) (v := (1000 : Int32)) dX12_one_104 (by decide) ?_
      refine st_aload_n (pc := 107) dX12_one_107 rfl ?_
      refine bd_geti (pc := 108) hq dX12_one_108 fl_12_220_12 rfl (fun v7 hq => ?_)
      refine st_iload_n (pc := 111) dX12_one_111 rfl ?_
      obtain ⟨q8, e8, hq⟩ := mh_ob hq
      refine st_invS (pc := 112) (Y := mX12_nameOf) (vs := [.int v7, .int q1.1]) (rest := [.int (1000 : Int32), .ref l0]) (st2 := [.int q8.1, .int (1000 : Int32), .ref l0]) dX12_one_112 okX12_nameOf wd_1525 wd_1526 pdX12_nameOf rfl rfl rfl rfl (Nat.le_trans (by decide) hd) (Nat.le_of_ble_eq_true rfl) (T_X12_nameOf (Nat.le_refl _) e8) rfl ?_
      refine st_iadd (pc := 115) dX12_one_115 ?_
      obtain ⟨⟨hbq9, hkq9⟩, hq⟩ := mh_oi hq
      obtain ⟨q9, e9, hq⟩ := mh_ob hq
      refine st_invV (pc := 116) (ci := 12) (vs := [.int ((1000 : Int32) + q8.1)]) (rest := []) (st2 := []) dX12_one_116 okX12_puts_ (by decide) hkq9 hbq9 wd_1521 wd_1523 wp_70 pdX12_puts_ rfl rfl rfl rfl (Nat.le_trans (by decide) hd) (Nat.le_of_ble_eq_true rfl) (T_X12_puts_ (Nat.le_refl _) e9) rfl ?_
      refine st_goto (pc := 119) (tgt := 196) dX12_one_119 (by decide) ?_
      exact bd_vret (pc := 196) hq dX12_one_196 rfl
  ·
    refine st_iconst (pc := 19) (v := (0 : Int32)) dX12_one_19 rfl ?_
    refine st_istore_n (pc := 20) (lv' := [some (.ref l0), some (.int q1.1), some (.int (0 : Int32)), none]) dX12_one_20 rfl (by decide) rfl ?_
    refine st_iconst (pc := 21) (v := (0 : Int32)) dX12_one_21 rfl ?_
    refine st_istore_n (pc := 22) (lv' := [some (.ref l0), some (.int q1.1), some (.int (0 : Int32)), some (.int (0 : Int32))]) dX12_one_22 rfl (by decide) rfl ?_
    refine st_lesS (lv' := [some (.ref l0), none, some (.int (0 : Int32)), some (.int (0 : Int32))]) ⟨Or.inr rfl, Or.inl rfl, Or.inr rfl, Or.inr rfl, trivial⟩ ?_
    exact T_X12_one_23 hd hdB hB N _ _ _ _ hq
-- HoleWaterModel.term()V
theorem dX12_term_36 : decode cX12_term 36 = .ok (.istore_n 1, 1) := by decide +kernel
theorem dX12_term_37 : decode cX12_term 37 = .ok (.aload_n 0, 1) := by decide +kernel
theorem dX12_term_38 : decode cX12_term 38 = .ok (.dup, 1) := by decide +kernel
theorem dX12_term_39 : decode cX12_term 39 = .ok (.getfield 203, 3) := by decide +kernel
theorem dX12_term_42 : decode cX12_term 42 = .ok (.iconst 1, 1) := by decide +kernel
theorem dX12_term_43 : decode cX12_term 43 = .ok (.iadd, 1) := by decide +kernel
theorem dX12_term_44 : decode cX12_term 44 = .ok (.putfield 203, 3) := by decide +kernel
theorem dX12_term_47 : decode cX12_term 47 = .ok (.aload_n 0, 1) := by decide +kernel
theorem dX12_term_48 : decode cX12_term 48 = .ok (.invokevirtual 235, 3) := by decide +kernel
theorem dX12_term_51 : decode cX12_term 51 = .ok (.aload_n 0, 1) := by decide +kernel
theorem dX12_term_52 : decode cX12_term 52 = .ok (.sipush 2000, 3) := by decide +kernel
theorem dX12_term_55 : decode cX12_term 55 = .ok (.iload_n 1, 1) := by decide +kernel
theorem dX12_term_56 : decode cX12_term 56 = .ok (.iadd, 1) := by decide +kernel
theorem dX12_term_57 : decode cX12_term 57 = .ok (.invokevirtual 218, 3) := by decide +kernel
theorem dX12_term_60 : decode cX12_term 60 = .ok (.goto (-56), 3) := by decide +kernel
theorem dX12_term_22 : decode cX12_term 22 = .ok (.aload_n 0, 1) := by decide +kernel
theorem dX12_term_23 : decode cX12_term 23 = .ok (.invokevirtual 207, 3) := by decide +kernel
theorem dX12_term_26 : decode cX12_term 26 = .ok (.bipush 42, 2) := by decide +kernel
theorem dX12_term_28 : decode cX12_term 28 = .ok (.if_icmp .ne 7, 3) := by decide +kernel
theorem dX12_term_31 : decode cX12_term 31 = .ok (.iconst 2, 1) := by decide +kernel
theorem dX12_term_32 : decode cX12_term 32 = .ok (.goto 4, 3) := by decide +kernel
theorem dX12_term_35 : decode cX12_term 35 = .ok (.iconst 3, 1) := by decide +kernel
theorem dX12_term_4 : decode cX12_term 4 = .ok (.aload_n 0, 1) := by decide +kernel
theorem dX12_term_5 : decode cX12_term 5 = .ok (.invokevirtual 207, 3) := by decide +kernel
theorem dX12_term_8 : decode cX12_term 8 = .ok (.bipush 42, 2) := by decide +kernel
theorem dX12_term_10 : decode cX12_term 10 = .ok (.if_icmp .eq 12, 3) := by decide +kernel
theorem dX12_term_13 : decode cX12_term 13 = .ok (.aload_n 0, 1) := by decide +kernel
theorem dX12_term_14 : decode cX12_term 14 = .ok (.invokevirtual 207, 3) := by decide +kernel
theorem dX12_term_17 : decode cX12_term 17 = .ok (.bipush 47, 2) := by decide +kernel
theorem dX12_term_19 : decode cX12_term 19 = .ok (.if_icmp .ne 44, 3) := by decide +kernel
theorem dX12_term_63 : decode cX12_term 63 = .ok (.return_, 1) := by decide +kernel
theorem dX12_term_0 : decode cX12_term 0 = .ok (.aload_n 0, 1) := by decide +kernel
theorem dX12_term_1 : decode cX12_term 1 = .ok (.invokevirtual 235, 3) := by decide +kernel
def D_X12_term_36 (N : Nat) (kB : mh_H → Nat → Option mh_H) (k4 : mh_H → Nat → Option mh_H) (h : mh_H) (l0 : Nat) (s0 : Int32) : Option mh_H :=
  (gI h 12 l0 11).bind fun v1 =>
  (pI h 12 l0 11 (v1 + (1 : Int32))).bind fun h2 =>
  kO h2 12 l0 <|
  (D_X12_one N kB h2 l0).bind fun q3 =>
  kO q3 12 l0 <|
  (D_X12_puts_ N q3 l0 ((2000 : Int32) + s0)).bind fun q4 =>
  k4 q4 l0
set_option maxHeartbeats 4000000 in
set_option maxRecDepth 100000 in
theorem T_X12_term_36 {P : mh_E → Prop} {N d : Nat} (hd : 4 ≤ d) {kB : mh_H → Nat → Option mh_H} {dB : Nat} (hdB : dB + 2 ≤ d) (hB : ∀ (h : mh_H) (x0 : Nat) (z : mh_H), kB h x0 = some z → mh_go P dB mX12_sum 0 [some (.ref x0), none] [] h none z) {z : mh_H} {k4 : mh_H → Nat → Option mh_H} (hk4 : ∀ (h : mh_H) (l0 : Nat), k4 h l0 = some z → mh_go P d mX12_term 4 [some (.ref l0), none] [] h none z) {h : mh_H} {l0 : Nat} {s0 : Int32} (hq : D_X12_term_36 N kB k4 h l0 s0 = some z) : mh_go P d mX12_term 36 [some (.ref l0), none] [.int s0] h none z := by
  unfold D_X12_term_36 at hq
  refine st_istore_n (pc := 36) (lv' := [some (.ref l0), some (.int s0)]) dX12_term_36 rfl (by decide) rfl ?_
  refine st_aload_n (pc := 37) dX12_term_37 rfl ?_
  refine st_dup (pc := 38) dX12_term_38 rfl ?_
  refine bd_geti (pc := 39) hq dX12_term_39 fl_12_203_12 rfl (fun v1 hq => ?_)
  refine st_iconst (pc := 42) (v := (1 : Int32)) dX12_term_42 rfl ?_
  refine st_iadd (pc := 43) dX12_term_43 ?_
  refine bd_puti (pc := 44) hq dX12_term_44 fl_12_203_12 (Or.inl rfl) rfl (fun h2 hq => ?_)
  refine st_aload_n (pc := 47) dX12_term_47 rfl ?_
  obtain ⟨⟨hbq3, hkq3⟩, hq⟩ := mh_oi hq
  obtain ⟨q3, e3, hq⟩ := mh_ob hq
  refine st_invV (pc := 48) (ci := 12) (vs := []) (rest := []) (st2 := []) dX12_term_48 okX12_one (by decide) hkq3 hbq3 wd_1511 wd_1513 wp_68 pdX12_one rfl rfl rfl rfl (by omega) (Nat.le_of_ble_eq_true rfl) (T_X12_one (d := d - 1) (by omega) (by omega) hB e3) rfl ?_
  refine st_aload_n (pc := 51) dX12_term_51 rfl ?_
  refine st_sipush (pc := 52) (v := (2000 : Int32)) dX12_term_52 (by decide) ?_
  refine st_iload_n (pc := 55) dX12_term_55 rfl ?_
  refine st_iadd (pc := 56) dX12_term_56 ?_
  obtain ⟨⟨hbq4, hkq4⟩, hq⟩ := mh_oi hq
  obtain ⟨q4, e4, hq⟩ := mh_ob hq
  refine st_invV (pc := 57) (ci := 12) (vs := [.int ((2000 : Int32) + s0)]) (rest := []) (st2 := []) dX12_term_57 okX12_puts_ (by decide) hkq4 hbq4 wd_1521 wd_1523 wp_70 pdX12_puts_ rfl rfl rfl rfl (Nat.le_trans (by decide) hd) (Nat.le_of_ble_eq_true rfl) (T_X12_puts_ (Nat.le_refl _) e4) rfl ?_
  refine st_goto (pc := 60) (tgt := 4) dX12_term_60 (by decide) ?_
  refine st_lesS (lv' := [some (.ref l0), none]) ⟨Or.inr rfl, Or.inl rfl, trivial⟩ ?_
  exact hk4 _ _ hq
def D_X12_term_22 (N : Nat) (kB : mh_H → Nat → Option mh_H) (k4 : mh_H → Nat → Option mh_H) (h : mh_H) (l0 : Nat) : Option mh_H :=
  kO h 12 l0 <|
  (D_X12_here N h l0).bind fun q1 =>
  if q1.1 = (42 : Int32) then (D_X12_term_36 N kB k4 q1.2 l0 (2 : Int32))
  else (D_X12_term_36 N kB k4 q1.2 l0 (3 : Int32))
set_option maxHeartbeats 4000000 in
set_option maxRecDepth 100000 in
theorem T_X12_term_22 {P : mh_E → Prop} {N d : Nat} (hd : 4 ≤ d) {kB : mh_H → Nat → Option mh_H} {dB : Nat} (hdB : dB + 2 ≤ d) (hB : ∀ (h : mh_H) (x0 : Nat) (z : mh_H), kB h x0 = some z → mh_go P dB mX12_sum 0 [some (.ref x0), none] [] h none z) {z : mh_H} {k4 : mh_H → Nat → Option mh_H} (hk4 : ∀ (h : mh_H) (l0 : Nat), k4 h l0 = some z → mh_go P d mX12_term 4 [some (.ref l0), none] [] h none z) {h : mh_H} {l0 : Nat} (hq : D_X12_term_22 N kB k4 h l0 = some z) : mh_go P d mX12_term 22 [some (.ref l0), none] [] h none z := by
  unfold D_X12_term_22 at hq
  refine st_aload_n (pc := 22) dX12_term_22 rfl ?_
  obtain ⟨⟨hbq1, hkq1⟩, hq⟩ := mh_oi hq
  obtain ⟨q1, e1, hq⟩ := mh_ob hq
  refine st_invV (pc := 23) (ci := 12) (vs := []) (rest := []) (st2 := [.int q1.1]) dX12_term_23 okX12_here (by decide) hkq1 hbq1 wd_1515 wd_1517 wp_69 pdX12_here rfl rfl rfl rfl (Nat.le_trans (by decide) hd) (Nat.le_of_ble_eq_true rfl) (T_X12_here (Nat.le_refl _) e1) rfl ?_
  refine st_bipush (pc := 26) (v := (42 : Int32)) dX12_term_26 (by decide) ?_
  refine bd_icmp_ne (pc := 28) (tgt := 35) hq dX12_term_28 (by decide) (fun _ hq => ?_) (fun _ hq => ?_)
  ·
    refine st_iconst (pc := 31) (v := (2 : Int32)) dX12_term_31 rfl ?_
    refine st_goto (pc := 32) (tgt := 36) dX12_term_32 (by decide) ?_
    exact T_X12_term_36 hd hdB hB hk4 hq
  ·
    refine st_iconst (pc := 35) (v := (3 : Int32)) dX12_term_35 rfl ?_
    exact T_X12_term_36 hd hdB hB hk4 hq
def D_X12_term_4 (N : Nat) (kB : mh_H → Nat → Option mh_H) : Nat → mh_H → Nat → Option mh_H
  | 0, _, _ => none
  | F + 1, h, l0 =>
    kO h 12 l0 <|
    (D_X12_here N h l0).bind fun q1 =>
    if q1.1 = (42 : Int32) then (D_X12_term_22 N kB (D_X12_term_4 N kB F) q1.2 l0)
    else (kO q1.2 12 l0 <|
    (D_X12_here N q1.2 l0).bind fun q2 =>
    if q2.1 = (47 : Int32) then (D_X12_term_22 N kB (D_X12_term_4 N kB F) q2.2 l0)
    else (some q2.2))
set_option maxHeartbeats 4000000 in
set_option maxRecDepth 100000 in
theorem T_X12_term_4 {P : mh_E → Prop} {N d : Nat} (hd : 4 ≤ d) {kB : mh_H → Nat → Option mh_H} {dB : Nat} (hdB : dB + 2 ≤ d) (hB : ∀ (h : mh_H) (x0 : Nat) (z : mh_H), kB h x0 = some z → mh_go P dB mX12_sum 0 [some (.ref x0), none] [] h none z) {z : mh_H} : ∀ (F : Nat) (h : mh_H) (l0 : Nat), D_X12_term_4 N kB F h l0 = some z → mh_go P d mX12_term 4 [some (.ref l0), none] [] h none z := by
  intro F
  induction F with
  | zero => intro h l0 hq; rw [D_X12_term_4] at hq; cases hq
  | succ F ih =>
    intro h l0 hq
    rw [D_X12_term_4] at hq
    refine st_aload_n (pc := 4) dX12_term_4 rfl ?_
    obtain ⟨⟨hbq1, hkq1⟩, hq⟩ := mh_oi hq
    obtain ⟨q1, e1, hq⟩ := mh_ob hq
    refine st_invV (pc := 5) (ci := 12) (vs := []) (rest := []) (st2 := [.int q1.1]) dX12_term_5 okX12_here (by decide) hkq1 hbq1 wd_1515 wd_1517 wp_69 pdX12_here rfl rfl rfl rfl (Nat.le_trans (by decide) hd) (Nat.le_of_ble_eq_true rfl) (T_X12_here (Nat.le_refl _) e1) rfl ?_
    refine st_bipush (pc := 8) (v := (42 : Int32)) dX12_term_8 (by decide) ?_
    refine bd_icmp_eq (pc := 10) (tgt := 22) hq dX12_term_10 (by decide) (fun _ hq => ?_) (fun _ hq => ?_)
    ·
      exact T_X12_term_22 hd hdB hB ih hq
    ·
      refine st_aload_n (pc := 13) dX12_term_13 rfl ?_
      obtain ⟨⟨hbq2, hkq2⟩, hq⟩ := mh_oi hq
      obtain ⟨q2, e2, hq⟩ := mh_ob hq
      refine st_invV (pc := 14) (ci := 12) (vs := []) (rest := []) (st2 := [.int q2.1]) dX12_term_14 okX12_here (by decide) hkq2 hbq2 wd_1515 wd_1517 wp_69 pdX12_here rfl rfl rfl rfl (Nat.le_trans (by decide) hd) (Nat.le_of_ble_eq_true rfl) (T_X12_here (Nat.le_refl _) e2) rfl ?_
      refine st_bipush (pc := 17) (v := (47 : Int32)) dX12_term_17 (by decide) ?_
      refine bd_icmp_ne (pc := 19) (tgt := 63) hq dX12_term_19 (by decide) (fun _ hq => ?_) (fun _ hq => ?_)
      ·
        exact T_X12_term_22 hd hdB hB ih hq
      ·
        exact bd_vret (pc := 63) hq dX12_term_63 rfl
def D_X12_term (N : Nat) (kB : mh_H → Nat → Option mh_H) (h : mh_H) (l0 : Nat) : Option mh_H :=
  kO h 12 l0 <|
  (D_X12_one N kB h l0).bind fun q1 =>
  D_X12_term_4 N kB N q1 l0
set_option maxHeartbeats 4000000 in
set_option maxRecDepth 100000 in
theorem T_X12_term {P : mh_E → Prop} {N d : Nat} (hd : 4 ≤ d) {kB : mh_H → Nat → Option mh_H} {dB : Nat} (hdB : dB + 2 ≤ d) (hB : ∀ (h : mh_H) (x0 : Nat) (z : mh_H), kB h x0 = some z → mh_go P dB mX12_sum 0 [some (.ref x0), none] [] h none z) {z : mh_H} {h : mh_H} {l0 : Nat} (hq : D_X12_term N kB h l0 = some z) : mh_go P d mX12_term 0 [some (.ref l0), none] [] h none z := by
  unfold D_X12_term at hq
  refine st_aload_n (pc := 0) dX12_term_0 rfl ?_
  obtain ⟨⟨hbq1, hkq1⟩, hq⟩ := mh_oi hq
  obtain ⟨q1, e1, hq⟩ := mh_ob hq
  refine st_invV (pc := 1) (ci := 12) (vs := []) (rest := []) (st2 := []) dX12_term_1 okX12_one (by decide) hkq1 hbq1 wd_1511 wd_1513 wp_68 pdX12_one rfl rfl rfl rfl (by omega) (Nat.le_of_ble_eq_true rfl) (T_X12_one (d := d - 1) (by omega) (by omega) hB e1) rfl ?_
  exact T_X12_term_4 hd hdB hB N _ _ hq
-- HoleWaterModel.sum()V
theorem dX12_sum_36 : decode cX12_sum 36 = .ok (.istore_n 1, 1) := by decide +kernel
theorem dX12_sum_37 : decode cX12_sum 37 = .ok (.aload_n 0, 1) := by decide +kernel
theorem dX12_sum_38 : decode cX12_sum 38 = .ok (.dup, 1) := by decide +kernel
theorem dX12_sum_39 : decode cX12_sum 39 = .ok (.getfield 203, 3) := by decide +kernel
theorem dX12_sum_42 : decode cX12_sum 42 = .ok (.iconst 1, 1) := by decide +kernel
theorem dX12_sum_43 : decode cX12_sum 43 = .ok (.iadd, 1) := by decide +kernel
theorem dX12_sum_44 : decode cX12_sum 44 = .ok (.putfield 203, 3) := by decide +kernel
theorem dX12_sum_47 : decode cX12_sum 47 = .ok (.aload_n 0, 1) := by decide +kernel
theorem dX12_sum_48 : decode cX12_sum 48 = .ok (.invokevirtual 238, 3) := by decide +kernel
theorem dX12_sum_51 : decode cX12_sum 51 = .ok (.aload_n 0, 1) := by decide +kernel
theorem dX12_sum_52 : decode cX12_sum 52 = .ok (.sipush 2000, 3) := by decide +kernel
theorem dX12_sum_55 : decode cX12_sum 55 = .ok (.iload_n 1, 1) := by decide +kernel
theorem dX12_sum_56 : decode cX12_sum 56 = .ok (.iadd, 1) := by decide +kernel
theorem dX12_sum_57 : decode cX12_sum 57 = .ok (.invokevirtual 218, 3) := by decide +kernel
theorem dX12_sum_60 : decode cX12_sum 60 = .ok (.goto (-56), 3) := by decide +kernel
theorem dX12_sum_22 : decode cX12_sum 22 = .ok (.aload_n 0, 1) := by decide +kernel
theorem dX12_sum_23 : decode cX12_sum 23 = .ok (.invokevirtual 207, 3) := by decide +kernel
theorem dX12_sum_26 : decode cX12_sum 26 = .ok (.bipush 43, 2) := by decide +kernel
theorem dX12_sum_28 : decode cX12_sum 28 = .ok (.if_icmp .ne 7, 3) := by decide +kernel
theorem dX12_sum_31 : decode cX12_sum 31 = .ok (.iconst 0, 1) := by decide +kernel
theorem dX12_sum_32 : decode cX12_sum 32 = .ok (.goto 4, 3) := by decide +kernel
theorem dX12_sum_35 : decode cX12_sum 35 = .ok (.iconst 1, 1) := by decide +kernel
theorem dX12_sum_4 : decode cX12_sum 4 = .ok (.aload_n 0, 1) := by decide +kernel
theorem dX12_sum_5 : decode cX12_sum 5 = .ok (.invokevirtual 207, 3) := by decide +kernel
theorem dX12_sum_8 : decode cX12_sum 8 = .ok (.bipush 43, 2) := by decide +kernel
theorem dX12_sum_10 : decode cX12_sum 10 = .ok (.if_icmp .eq 12, 3) := by decide +kernel
theorem dX12_sum_13 : decode cX12_sum 13 = .ok (.aload_n 0, 1) := by decide +kernel
theorem dX12_sum_14 : decode cX12_sum 14 = .ok (.invokevirtual 207, 3) := by decide +kernel
theorem dX12_sum_17 : decode cX12_sum 17 = .ok (.bipush 45, 2) := by decide +kernel
theorem dX12_sum_19 : decode cX12_sum 19 = .ok (.if_icmp .ne 44, 3) := by decide +kernel
theorem dX12_sum_63 : decode cX12_sum 63 = .ok (.return_, 1) := by decide +kernel
theorem dX12_sum_0 : decode cX12_sum 0 = .ok (.aload_n 0, 1) := by decide +kernel
theorem dX12_sum_1 : decode cX12_sum 1 = .ok (.invokevirtual 238, 3) := by decide +kernel
def D_X12_sum_36 (N : Nat) (kB : mh_H → Nat → Option mh_H) (k4 : mh_H → Nat → Option mh_H) (h : mh_H) (l0 : Nat) (s0 : Int32) : Option mh_H :=
  (gI h 12 l0 11).bind fun v1 =>
  (pI h 12 l0 11 (v1 + (1 : Int32))).bind fun h2 =>
  kO h2 12 l0 <|
  (D_X12_term N kB h2 l0).bind fun q3 =>
  kO q3 12 l0 <|
  (D_X12_puts_ N q3 l0 ((2000 : Int32) + s0)).bind fun q4 =>
  k4 q4 l0
set_option maxHeartbeats 4000000 in
set_option maxRecDepth 100000 in
theorem T_X12_sum_36 {P : mh_E → Prop} {N d : Nat} (hd : 5 ≤ d) {kB : mh_H → Nat → Option mh_H} {dB : Nat} (hdB : dB + 3 ≤ d) (hB : ∀ (h : mh_H) (x0 : Nat) (z : mh_H), kB h x0 = some z → mh_go P dB mX12_sum 0 [some (.ref x0), none] [] h none z) {z : mh_H} {k4 : mh_H → Nat → Option mh_H} (hk4 : ∀ (h : mh_H) (l0 : Nat), k4 h l0 = some z → mh_go P d mX12_sum 4 [some (.ref l0), none] [] h none z) {h : mh_H} {l0 : Nat} {s0 : Int32} (hq : D_X12_sum_36 N kB k4 h l0 s0 = some z) : mh_go P d mX12_sum 36 [some (.ref l0), none] [.int s0] h none z := by
  unfold D_X12_sum_36 at hq
  refine st_istore_n (pc := 36) (lv' := [some (.ref l0), some (.int s0)]) dX12_sum_36 rfl (by decide) rfl ?_
  refine st_aload_n (pc := 37) dX12_sum_37 rfl ?_
  refine st_dup (pc := 38) dX12_sum_38 rfl ?_
  refine bd_geti (pc := 39) hq dX12_sum_39 fl_12_203_12 rfl (fun v1 hq => ?_)
  refine st_iconst (pc := 42) (v := (1 : Int32)) dX12_sum_42 rfl ?_
  refine st_iadd (pc := 43) dX12_sum_43 ?_
  refine bd_puti (pc := 44) hq dX12_sum_44 fl_12_203_12 (Or.inl rfl) rfl (fun h2 hq => ?_)
  refine st_aload_n (pc := 47) dX12_sum_47 rfl ?_
  obtain ⟨⟨hbq3, hkq3⟩, hq⟩ := mh_oi hq
  obtain ⟨q3, e3, hq⟩ := mh_ob hq
  refine st_invV (pc := 48) (ci := 12) (vs := []) (rest := []) (st2 := []) dX12_sum_48 okX12_term (by decide) hkq3 hbq3 wd_1507 wd_1509 wp_67 pdX12_term rfl rfl rfl rfl (by omega) (Nat.le_of_ble_eq_true rfl) (T_X12_term (d := d - 1) (by omega) (by omega) hB e3) rfl ?_
  refine st_aload_n (pc := 51) dX12_sum_51 rfl ?_
  refine st_sipush (pc := 52) (v := (2000 : Int32)) dX12_sum_52 (by decide) ?_
  refine st_iload_n (pc := 55) dX12_sum_55 rfl ?_
  refine st_iadd (pc := 56) dX12_sum_56 ?_
  obtain ⟨⟨hbq4, hkq4⟩, hq⟩ := mh_oi hq
  obtain ⟨q4, e4, hq⟩ := mh_ob hq
  refine st_invV (pc := 57) (ci := 12) (vs := [.int ((2000 : Int32) + s0)]) (rest := []) (st2 := []) dX12_sum_57 okX12_puts_ (by decide) hkq4 hbq4 wd_1521 wd_1523 wp_70 pdX12_puts_ rfl rfl rfl rfl (Nat.le_trans (by decide) hd) (Nat.le_of_ble_eq_true rfl) (T_X12_puts_ (Nat.le_refl _) e4) rfl ?_
  refine st_goto (pc := 60) (tgt := 4) dX12_sum_60 (by decide) ?_
  refine st_lesS (lv' := [some (.ref l0), none]) ⟨Or.inr rfl, Or.inl rfl, trivial⟩ ?_
  exact hk4 _ _ hq
def D_X12_sum_22 (N : Nat) (kB : mh_H → Nat → Option mh_H) (k4 : mh_H → Nat → Option mh_H) (h : mh_H) (l0 : Nat) : Option mh_H :=
  kO h 12 l0 <|
  (D_X12_here N h l0).bind fun q1 =>
  if q1.1 = (43 : Int32) then (D_X12_sum_36 N kB k4 q1.2 l0 (0 : Int32))
  else (D_X12_sum_36 N kB k4 q1.2 l0 (1 : Int32))
set_option maxHeartbeats 4000000 in
set_option maxRecDepth 100000 in
theorem T_X12_sum_22 {P : mh_E → Prop} {N d : Nat} (hd : 5 ≤ d) {kB : mh_H → Nat → Option mh_H} {dB : Nat} (hdB : dB + 3 ≤ d) (hB : ∀ (h : mh_H) (x0 : Nat) (z : mh_H), kB h x0 = some z → mh_go P dB mX12_sum 0 [some (.ref x0), none] [] h none z) {z : mh_H} {k4 : mh_H → Nat → Option mh_H} (hk4 : ∀ (h : mh_H) (l0 : Nat), k4 h l0 = some z → mh_go P d mX12_sum 4 [some (.ref l0), none] [] h none z) {h : mh_H} {l0 : Nat} (hq : D_X12_sum_22 N kB k4 h l0 = some z) : mh_go P d mX12_sum 22 [some (.ref l0), none] [] h none z := by
  unfold D_X12_sum_22 at hq
  refine st_aload_n (pc := 22) dX12_sum_22 rfl ?_
  obtain ⟨⟨hbq1, hkq1⟩, hq⟩ := mh_oi hq
  obtain ⟨q1, e1, hq⟩ := mh_ob hq
  refine st_invV (pc := 23) (ci := 12) (vs := []) (rest := []) (st2 := [.int q1.1]) dX12_sum_23 okX12_here (by decide) hkq1 hbq1 wd_1515 wd_1517 wp_69 pdX12_here rfl rfl rfl rfl (Nat.le_trans (by decide) hd) (Nat.le_of_ble_eq_true rfl) (T_X12_here (Nat.le_refl _) e1) rfl ?_
  refine st_bipush (pc := 26) (v := (43 : Int32)) dX12_sum_26 (by decide) ?_
  refine bd_icmp_ne (pc := 28) (tgt := 35) hq dX12_sum_28 (by decide) (fun _ hq => ?_) (fun _ hq => ?_)
  ·
    refine st_iconst (pc := 31) (v := (0 : Int32)) dX12_sum_31 rfl ?_
    refine st_goto (pc := 32) (tgt := 36) dX12_sum_32 (by decide) ?_
    exact T_X12_sum_36 hd hdB hB hk4 hq
  ·
    refine st_iconst (pc := 35) (v := (1 : Int32)) dX12_sum_35 rfl ?_
    exact T_X12_sum_36 hd hdB hB hk4 hq
def D_X12_sum_4 (N : Nat) (kB : mh_H → Nat → Option mh_H) : Nat → mh_H → Nat → Option mh_H
  | 0, _, _ => none
  | F + 1, h, l0 =>
    kO h 12 l0 <|
    (D_X12_here N h l0).bind fun q1 =>
    if q1.1 = (43 : Int32) then (D_X12_sum_22 N kB (D_X12_sum_4 N kB F) q1.2 l0)
    else (kO q1.2 12 l0 <|
    (D_X12_here N q1.2 l0).bind fun q2 =>
    if q2.1 = (45 : Int32) then (D_X12_sum_22 N kB (D_X12_sum_4 N kB F) q2.2 l0)
    else (some q2.2))
set_option maxHeartbeats 4000000 in
set_option maxRecDepth 100000 in
theorem T_X12_sum_4 {P : mh_E → Prop} {N d : Nat} (hd : 5 ≤ d) {kB : mh_H → Nat → Option mh_H} {dB : Nat} (hdB : dB + 3 ≤ d) (hB : ∀ (h : mh_H) (x0 : Nat) (z : mh_H), kB h x0 = some z → mh_go P dB mX12_sum 0 [some (.ref x0), none] [] h none z) {z : mh_H} : ∀ (F : Nat) (h : mh_H) (l0 : Nat), D_X12_sum_4 N kB F h l0 = some z → mh_go P d mX12_sum 4 [some (.ref l0), none] [] h none z := by
  intro F
  induction F with
  | zero => intro h l0 hq; rw [D_X12_sum_4] at hq; cases hq
  | succ F ih =>
    intro h l0 hq
    rw [D_X12_sum_4] at hq
    refine st_aload_n (pc := 4) dX12_sum_4 rfl ?_
    obtain ⟨⟨hbq1, hkq1⟩, hq⟩ := mh_oi hq
    obtain ⟨q1, e1, hq⟩ := mh_ob hq
    refine st_invV (pc := 5) (ci := 12) (vs := []) (rest := []) (st2 := [.int q1.1]) dX12_sum_5 okX12_here (by decide) hkq1 hbq1 wd_1515 wd_1517 wp_69 pdX12_here rfl rfl rfl rfl (Nat.le_trans (by decide) hd) (Nat.le_of_ble_eq_true rfl) (T_X12_here (Nat.le_refl _) e1) rfl ?_
    refine st_bipush (pc := 8) (v := (43 : Int32)) dX12_sum_8 (by decide) ?_
    refine bd_icmp_eq (pc := 10) (tgt := 22) hq dX12_sum_10 (by decide) (fun _ hq => ?_) (fun _ hq => ?_)
    ·
      exact T_X12_sum_22 hd hdB hB ih hq
    ·
      refine st_aload_n (pc := 13) dX12_sum_13 rfl ?_
      obtain ⟨⟨hbq2, hkq2⟩, hq⟩ := mh_oi hq
      obtain ⟨q2, e2, hq⟩ := mh_ob hq
      refine st_invV (pc := 14) (ci := 12) (vs := []) (rest := []) (st2 := [.int q2.1]) dX12_sum_14 okX12_here (by decide) hkq2 hbq2 wd_1515 wd_1517 wp_69 pdX12_here rfl rfl rfl rfl (Nat.le_trans (by decide) hd) (Nat.le_of_ble_eq_true rfl) (T_X12_here (Nat.le_refl _) e2) rfl ?_
      refine st_bipush (pc := 17) (v := (45 : Int32)) dX12_sum_17 (by decide) ?_
      refine bd_icmp_ne (pc := 19) (tgt := 63) hq dX12_sum_19 (by decide) (fun _ hq => ?_) (fun _ hq => ?_)
      ·
        exact T_X12_sum_22 hd hdB hB ih hq
      ·
        exact bd_vret (pc := 63) hq dX12_sum_63 rfl
def E_X12_sum (N : Nat) (kB : mh_H → Nat → Option mh_H) (h : mh_H) (l0 : Nat) : Option mh_H :=
  kO h 12 l0 <|
  (D_X12_term N kB h l0).bind fun q1 =>
  D_X12_sum_4 N kB N q1 l0
set_option maxHeartbeats 4000000 in
set_option maxRecDepth 100000 in
theorem TE_X12_sum {P : mh_E → Prop} {N d : Nat} (hd : 5 ≤ d) {kB : mh_H → Nat → Option mh_H} {dB : Nat} (hdB : dB + 3 ≤ d) (hB : ∀ (h : mh_H) (x0 : Nat) (z : mh_H), kB h x0 = some z → mh_go P dB mX12_sum 0 [some (.ref x0), none] [] h none z) {z : mh_H} {h : mh_H} {l0 : Nat} (hq : E_X12_sum N kB h l0 = some z) : mh_go P d mX12_sum 0 [some (.ref l0), none] [] h none z := by
  unfold E_X12_sum at hq
  refine st_aload_n (pc := 0) dX12_sum_0 rfl ?_
  obtain ⟨⟨hbq1, hkq1⟩, hq⟩ := mh_oi hq
  obtain ⟨q1, e1, hq⟩ := mh_ob hq
  refine st_invV (pc := 1) (ci := 12) (vs := []) (rest := []) (st2 := []) dX12_sum_1 okX12_term (by decide) hkq1 hbq1 wd_1507 wd_1509 wp_67 pdX12_term rfl rfl rfl rfl (by omega) (Nat.le_of_ble_eq_true rfl) (T_X12_term (d := d - 1) (by omega) (by omega) hB e1) rfl ?_
  exact T_X12_sum_4 hd hdB hB N _ _ hq
def D_X12_sum (N : Nat) : Nat → mh_H → Nat → Option mh_H
  | 0, _, _ => none
  | D + 1, h, l0 => E_X12_sum N (D_X12_sum N D) h l0
set_option maxHeartbeats 4000000 in
set_option maxRecDepth 100000 in
theorem T_X12_sum {P : mh_E → Prop} {N : Nat} : ∀ (D d : Nat), 5 + 3 * D ≤ d → ∀ (h : mh_H) (l0 : Nat) (z : mh_H), D_X12_sum N D h l0 = some z → mh_go P d mX12_sum 0 [some (.ref l0), none] [] h none z := by
  intro D
  induction D with
  | zero => intro d hd h l0 z hq; rw [D_X12_sum] at hq; cases hq
  | succ D ih =>
    intro d hd h l0 z hq
    rw [D_X12_sum] at hq
    exact TE_X12_sum (dB := 5 + 3 * D) (by omega) (by omega) (fun h l0 z hq => ih _ (Nat.le_refl _) h l0 z hq) hq
-- HoleWaterModel.test()V
theorem dX12_test_45 : decode cX12_test 45 = .ok (.istore_n 1, 1) := by decide +kernel
theorem dX12_test_46 : decode cX12_test 46 = .ok (.iload_n 1, 1) := by decide +kernel
theorem dX12_test_47 : decode cX12_test 47 = .ok (.ifCond .ge 9, 3) := by decide +kernel
theorem dX12_test_56 : decode cX12_test 56 = .ok (.aload_n 0, 1) := by decide +kernel
theorem dX12_test_57 : decode cX12_test 57 = .ok (.dup, 1) := by decide +kernel
theorem dX12_test_58 : decode cX12_test 58 = .ok (.getfield 203, 3) := by decide +kernel
theorem dX12_test_61 : decode cX12_test 61 = .ok (.iconst 1, 1) := by decide +kernel
theorem dX12_test_62 : decode cX12_test 62 = .ok (.iadd, 1) := by decide +kernel
theorem dX12_test_63 : decode cX12_test 63 = .ok (.putfield 203, 3) := by decide +kernel
theorem dX12_test_66 : decode cX12_test 66 = .ok (.aload_n 0, 1) := by decide +kernel
theorem dX12_test_67 : decode cX12_test 67 = .ok (.invokevirtual 229, 3) := by decide +kernel
theorem dX12_test_70 : decode cX12_test 70 = .ok (.aload_n 0, 1) := by decide +kernel
theorem dX12_test_71 : decode cX12_test 71 = .ok (.sipush 2000, 3) := by decide +kernel
theorem dX12_test_74 : decode cX12_test 74 = .ok (.iload_n 1, 1) := by decide +kernel
theorem dX12_test_75 : decode cX12_test 75 = .ok (.iadd, 1) := by decide +kernel
theorem dX12_test_76 : decode cX12_test 76 = .ok (.invokevirtual 218, 3) := by decide +kernel
theorem dX12_test_79 : decode cX12_test 79 = .ok (.return_, 1) := by decide +kernel
theorem dX12_test_50 : decode cX12_test 50 = .ok (.aload_n 0, 1) := by decide +kernel
theorem dX12_test_51 : decode cX12_test 51 = .ok (.iconst 1, 1) := by decide +kernel
theorem dX12_test_52 : decode cX12_test 52 = .ok (.putfield 199, 3) := by decide +kernel
theorem dX12_test_55 : decode cX12_test 55 = .ok (.return_, 1) := by decide +kernel
theorem dX12_test_0 : decode cX12_test 0 = .ok (.aload_n 0, 1) := by decide +kernel
theorem dX12_test_1 : decode cX12_test 1 = .ok (.invokevirtual 229, 3) := by decide +kernel
theorem dX12_test_4 : decode cX12_test 4 = .ok (.aload_n 0, 1) := by decide +kernel
theorem dX12_test_5 : decode cX12_test 5 = .ok (.invokevirtual 207, 3) := by decide +kernel
theorem dX12_test_8 : decode cX12_test 8 = .ok (.bipush 60, 2) := by decide +kernel
theorem dX12_test_10 : decode cX12_test 10 = .ok (.if_icmp .ne 7, 3) := by decide +kernel
theorem dX12_test_13 : decode cX12_test 13 = .ok (.iconst 4, 1) := by decide +kernel
theorem dX12_test_14 : decode cX12_test 14 = .ok (.goto 31, 3) := by decide +kernel
theorem dX12_test_17 : decode cX12_test 17 = .ok (.aload_n 0, 1) := by decide +kernel
theorem dX12_test_18 : decode cX12_test 18 = .ok (.invokevirtual 207, 3) := by decide +kernel
theorem dX12_test_21 : decode cX12_test 21 = .ok (.bipush 61, 2) := by decide +kernel
theorem dX12_test_23 : decode cX12_test 23 = .ok (.if_icmp .ne 7, 3) := by decide +kernel
theorem dX12_test_26 : decode cX12_test 26 = .ok (.iconst 5, 1) := by decide +kernel
theorem dX12_test_27 : decode cX12_test 27 = .ok (.goto 18, 3) := by decide +kernel
theorem dX12_test_30 : decode cX12_test 30 = .ok (.aload_n 0, 1) := by decide +kernel
theorem dX12_test_31 : decode cX12_test 31 = .ok (.invokevirtual 207, 3) := by decide +kernel
theorem dX12_test_34 : decode cX12_test 34 = .ok (.bipush 62, 2) := by decide +kernel
theorem dX12_test_36 : decode cX12_test 36 = .ok (.if_icmp .ne 8, 3) := by decide +kernel
theorem dX12_test_39 : decode cX12_test 39 = .ok (.bipush 6, 2) := by decide +kernel
theorem dX12_test_41 : decode cX12_test 41 = .ok (.goto 4, 3) := by decide +kernel
theorem dX12_test_44 : decode cX12_test 44 = .ok (.iconst (-1), 1) := by decide +kernel
def D_X12_test_45 (N : Nat) (h : mh_H) (l0 : Nat) (s0 : Int32) : Option mh_H :=
  if 0 ≤ s0 then ((gI h 12 l0 11).bind fun v1 =>
  (pI h 12 l0 11 (v1 + (1 : Int32))).bind fun h2 =>
  kO h2 12 l0 <|
  (D_X12_sum N 12 h2 l0).bind fun q3 =>
  kO q3 12 l0 <|
  (D_X12_puts_ N q3 l0 ((2000 : Int32) + s0)).bind fun q4 =>
  some q4)
  else ((pB h 12 l0 14 (1 : Int32)).bind fun h1 =>
  some h1)
set_option maxHeartbeats 4000000 in
set_option maxRecDepth 100000 in
theorem T_X12_test_45 {P : mh_E → Prop} {N d : Nat} (hd : 42 ≤ d) {z : mh_H} {h : mh_H} {l0 : Nat} {s0 : Int32} (hq : D_X12_test_45 N h l0 s0 = some z) : mh_go P d mX12_test 45 [some (.ref l0), none] [.int s0] h none z := by
  unfold D_X12_test_45 at hq
  refine st_istore_n (pc := 45) (lv' := [some (.ref l0), some (.int s0)]) dX12_test_45 rfl (by decide) rfl ?_
  refine st_iload_n (pc := 46) dX12_test_46 rfl ?_
  refine bd_if_ge (pc := 47) (tgt := 56) hq dX12_test_47 (by decide) (fun _ hq => ?_) (fun _ hq => ?_)
  ·
    refine st_aload_n (pc := 56) dX12_test_56 rfl ?_
    refine st_dup (pc := 57) dX12_test_57 rfl ?_
    refine bd_geti (pc := 58) hq dX12_test_58 fl_12_203_12 rfl (fun v1 hq => ?_)
    refine st_iconst (pc := 61) (v := (1 : Int32)) dX12_test_61 rfl ?_
    refine st_iadd (pc := 62) dX12_test_62 ?_
    refine bd_puti (pc := 63) hq dX12_test_63 fl_12_203_12 (Or.inl rfl) rfl (fun h2 hq => ?_)
    refine st_aload_n (pc := 66) dX12_test_66 rfl ?_
    obtain ⟨⟨hbq3, hkq3⟩, hq⟩ := mh_oi hq
    obtain ⟨q3, e3, hq⟩ := mh_ob hq
    refine st_invV (pc := 67) (ci := 12) (vs := []) (rest := []) (st2 := []) dX12_test_67 okX12_sum (by decide) hkq3 hbq3 wd_1503 wd_1505 wp_66 pdX12_sum rfl rfl rfl rfl (Nat.le_trans (by decide) hd) (Nat.le_of_ble_eq_true rfl) (T_X12_sum 12 _ (Nat.le_refl _) _ _ _ e3) rfl ?_
    refine st_aload_n (pc := 70) dX12_test_70 rfl ?_
    refine st_sipush (pc := 71) (v := (2000 : Int32)) dX12_test_71 (by decide) ?_
    refine st_iload_n (pc := 74) dX12_test_74 rfl ?_
    refine st_iadd (pc := 75) dX12_test_75 ?_
    obtain ⟨⟨hbq4, hkq4⟩, hq⟩ := mh_oi hq
    obtain ⟨q4, e4, hq⟩ := mh_ob hq
    refine st_invV (pc := 76) (ci := 12) (vs := [.int ((2000 : Int32) + s0)]) (rest := []) (st2 := []) dX12_test_76 okX12_puts_ (by decide) hkq4 hbq4 wd_1521 wd_1523 wp_70 pdX12_puts_ rfl rfl rfl rfl (Nat.le_trans (by decide) hd) (Nat.le_of_ble_eq_true rfl) (T_X12_puts_ (Nat.le_refl _) e4) rfl ?_
    exact bd_vret (pc := 79) hq dX12_test_79 rfl
  ·
    refine st_aload_n (pc := 50) dX12_test_50 rfl ?_
    refine st_iconst (pc := 51) (v := (1 : Int32)) dX12_test_51 rfl ?_
    refine bd_putb (pc := 52) hq dX12_test_52 fl_12_199_12 (Or.inl rfl) rfl (fun h1 hq => ?_)
    exact bd_vret (pc := 55) hq dX12_test_55 rfl
def D_X12_test (N : Nat) (h : mh_H) (l0 : Nat) : Option mh_H :=
  kO h 12 l0 <|
  (D_X12_sum N 12 h l0).bind fun q1 =>
  kO q1 12 l0 <|
  (D_X12_here N q1 l0).bind fun q2 =>
  if q2.1 = (60 : Int32) then (D_X12_test_45 N q2.2 l0 (4 : Int32))
  else (kO q2.2 12 l0 <|
  (D_X12_here N q2.2 l0).bind fun q3 =>
  if q3.1 = (61 : Int32) then (D_X12_test_45 N q3.2 l0 (5 : Int32))
  else (kO q3.2 12 l0 <|
  (D_X12_here N q3.2 l0).bind fun q4 =>
  if q4.1 = (62 : Int32) then (D_X12_test_45 N q4.2 l0 (6 : Int32))
  else (D_X12_test_45 N q4.2 l0 (-1 : Int32))))
set_option maxHeartbeats 4000000 in
set_option maxRecDepth 100000 in
theorem T_X12_test {P : mh_E → Prop} {N d : Nat} (hd : 42 ≤ d) {z : mh_H} {h : mh_H} {l0 : Nat} (hq : D_X12_test N h l0 = some z) : mh_go P d mX12_test 0 [some (.ref l0), none] [] h none z := by
  unfold D_X12_test at hq
  refine st_aload_n (pc := 0) dX12_test_0 rfl ?_
  obtain ⟨⟨hbq1, hkq1⟩, hq⟩ := mh_oi hq
  obtain ⟨q1, e1, hq⟩ := mh_ob hq
  refine st_invV (pc := 1) (ci := 12) (vs := []) (rest := []) (st2 := []) dX12_test_1 okX12_sum (by decide) hkq1 hbq1 wd_1503 wd_1505 wp_66 pdX12_sum rfl rfl rfl rfl (Nat.le_trans (by decide) hd) (Nat.le_of_ble_eq_true rfl) (T_X12_sum 12 _ (Nat.le_refl _) _ _ _ e1) rfl ?_
  refine st_aload_n (pc := 4) dX12_test_4 rfl ?_
  obtain ⟨⟨hbq2, hkq2⟩, hq⟩ := mh_oi hq
  obtain ⟨q2, e2, hq⟩ := mh_ob hq
  refine st_invV (pc := 5) (ci := 12) (vs := []) (rest := []) (st2 := [.int q2.1]) dX12_test_5 okX12_here (by decide) hkq2 hbq2 wd_1515 wd_1517 wp_69 pdX12_here rfl rfl rfl rfl (Nat.le_trans (by decide) hd) (Nat.le_of_ble_eq_true rfl) (T_X12_here (Nat.le_refl _) e2) rfl ?_
  refine st_bipush (pc := 8) (v := (60 : Int32)) dX12_test_8 (by decide) ?_
  refine bd_icmp_ne (pc := 10) (tgt := 17) hq dX12_test_10 (by decide) (fun _ hq => ?_) (fun _ hq => ?_)
  ·
    refine st_iconst (pc := 13) (v := (4 : Int32)) dX12_test_13 rfl ?_
    refine st_goto (pc := 14) (tgt := 45) dX12_test_14 (by decide) ?_
    exact T_X12_test_45 hd hq
  ·
    refine st_aload_n (pc := 17) dX12_test_17 rfl ?_
    obtain ⟨⟨hbq3, hkq3⟩, hq⟩ := mh_oi hq
    obtain ⟨q3, e3, hq⟩ := mh_ob hq
    refine st_invV (pc := 18) (ci := 12) (vs := []) (rest := []) (st2 := [.int q3.1]) dX12_test_18 okX12_here (by decide) hkq3 hbq3 wd_1515 wd_1517 wp_69 pdX12_here rfl rfl rfl rfl (Nat.le_trans (by decide) hd) (Nat.le_of_ble_eq_true rfl) (T_X12_here (Nat.le_refl _) e3) rfl ?_
    refine st_bipush (pc := 21) (v := (61 : Int32)) dX12_test_21 (by decide) ?_
    refine bd_icmp_ne (pc := 23) (tgt := 30) hq dX12_test_23 (by decide) (fun _ hq => ?_) (fun _ hq => ?_)
    ·
      refine st_iconst (pc := 26) (v := (5 : Int32)) dX12_test_26 rfl ?_
      refine st_goto (pc := 27) (tgt := 45) dX12_test_27 (by decide) ?_
      exact T_X12_test_45 hd hq
    ·
      refine st_aload_n (pc := 30) dX12_test_30 rfl ?_
      obtain ⟨⟨hbq4, hkq4⟩, hq⟩ := mh_oi hq
      obtain ⟨q4, e4, hq⟩ := mh_ob hq
      refine st_invV (pc := 31) (ci := 12) (vs := []) (rest := []) (st2 := [.int q4.1]) dX12_test_31 okX12_here (by decide) hkq4 hbq4 wd_1515 wd_1517 wp_69 pdX12_here rfl rfl rfl rfl (Nat.le_trans (by decide) hd) (Nat.le_of_ble_eq_true rfl) (T_X12_here (Nat.le_refl _) e4) rfl ?_
      refine st_bipush (pc := 34) (v := (62 : Int32)) dX12_test_34 (by decide) ?_
      refine bd_icmp_ne (pc := 36) (tgt := 44) hq dX12_test_36 (by decide) (fun _ hq => ?_) (fun _ hq => ?_)
      ·
        refine st_bipush (pc := 39) (v := (6 : Int32)) dX12_test_39 (by decide) ?_
        refine st_goto (pc := 41) (tgt := 45) dX12_test_41 (by decide) ?_
        exact T_X12_test_45 hd hq
      ·
        refine st_iconst (pc := 44) (v := (-1 : Int32)) dX12_test_44 rfl ?_
        exact T_X12_test_45 hd hq
-- HoleWaterModel.reads()V
theorem dX12_reads_104 : decode cX12_reads 104 = .ok (.istore_n 1, 1) := by decide +kernel
theorem dX12_reads_105 : decode cX12_reads 105 = .ok (.goto (-103), 3) := by decide +kernel
theorem dX12_reads_103 : decode cX12_reads 103 = .ok (.iconst 0, 1) := by decide +kernel
theorem dX12_reads_54 : decode cX12_reads 54 = .ok (.aload_n 0, 1) := by decide +kernel
theorem dX12_reads_55 : decode cX12_reads 55 = .ok (.getfield 31, 3) := by decide +kernel
theorem dX12_reads_58 : decode cX12_reads 58 = .ok (.iconst 2, 1) := by decide +kernel
theorem dX12_reads_59 : decode cX12_reads 59 = .ok (.aload_n 0, 1) := by decide +kernel
theorem dX12_reads_60 : decode cX12_reads 60 = .ok (.getfield 241, 3) := by decide +kernel
theorem dX12_reads_63 : decode cX12_reads 63 = .ok (.imul, 1) := by decide +kernel
theorem dX12_reads_64 : decode cX12_reads 64 = .ok (.iconst 1, 1) := by decide +kernel
theorem dX12_reads_65 : decode cX12_reads 65 = .ok (.iadd, 1) := by decide +kernel
theorem dX12_reads_66 : decode cX12_reads 66 = .ok (.aload_n 0, 1) := by decide +kernel
theorem dX12_reads_67 : decode cX12_reads 67 = .ok (.getfield 211, 3) := by decide +kernel
theorem dX12_reads_70 : decode cX12_reads 70 = .ok (.iastore, 1) := by decide +kernel
theorem dX12_reads_71 : decode cX12_reads 71 = .ok (.aload_n 0, 1) := by decide +kernel
theorem dX12_reads_72 : decode cX12_reads 72 = .ok (.dup, 1) := by decide +kernel
theorem dX12_reads_73 : decode cX12_reads 73 = .ok (.getfield 241, 3) := by decide +kernel
theorem dX12_reads_76 : decode cX12_reads 76 = .ok (.iconst 1, 1) := by decide +kernel
theorem dX12_reads_77 : decode cX12_reads 77 = .ok (.iadd, 1) := by decide +kernel
theorem dX12_reads_78 : decode cX12_reads 78 = .ok (.putfield 241, 3) := by decide +kernel
theorem dX12_reads_81 : decode cX12_reads 81 = .ok (.aload_n 0, 1) := by decide +kernel
theorem dX12_reads_82 : decode cX12_reads 82 = .ok (.getfield 241, 3) := by decide +kernel
theorem dX12_reads_85 : decode cX12_reads 85 = .ok (.bipush 6, 2) := by decide +kernel
theorem dX12_reads_87 : decode cX12_reads 87 = .ok (.if_icmp .ge 16, 3) := by decide +kernel
theorem dX12_reads_90 : decode cX12_reads 90 = .ok (.aload_n 0, 1) := by decide +kernel
theorem dX12_reads_91 : decode cX12_reads 91 = .ok (.bipush 59, 2) := by decide +kernel
theorem dX12_reads_93 : decode cX12_reads 93 = .ok (.invokevirtual 232, 3) := by decide +kernel
theorem dX12_reads_96 : decode cX12_reads 96 = .ok (.ifCond .eq 7, 3) := by decide +kernel
theorem dX12_reads_99 : decode cX12_reads 99 = .ok (.iconst 1, 1) := by decide +kernel
theorem dX12_reads_100 : decode cX12_reads 100 = .ok (.goto 4, 3) := by decide +kernel
theorem dX12_reads_38 : decode cX12_reads 38 = .ok (.aload_n 0, 1) := by decide +kernel
theorem dX12_reads_39 : decode cX12_reads 39 = .ok (.bipush 38, 2) := by decide +kernel
theorem dX12_reads_41 : decode cX12_reads 41 = .ok (.invokevirtual 232, 3) := by decide +kernel
theorem dX12_reads_44 : decode cX12_reads 44 = .ok (.ifCond .eq 10, 3) := by decide +kernel
theorem dX12_reads_47 : decode cX12_reads 47 = .ok (.aload_n 0, 1) := by decide +kernel
theorem dX12_reads_48 : decode cX12_reads 48 = .ok (.invokevirtual 244, 3) := by decide +kernel
theorem dX12_reads_51 : decode cX12_reads 51 = .ok (.goto (-13), 3) := by decide +kernel
theorem dX12_reads_2 : decode cX12_reads 2 = .ok (.iload_n 1, 1) := by decide +kernel
theorem dX12_reads_3 : decode cX12_reads 3 = .ok (.ifCond .eq 105, 3) := by decide +kernel
theorem dX12_reads_108 : decode cX12_reads 108 = .ok (.return_, 1) := by decide +kernel
theorem dX12_reads_6 : decode cX12_reads 6 = .ok (.aload_n 0, 1) := by decide +kernel
theorem dX12_reads_7 : decode cX12_reads 7 = .ok (.invokevirtual 229, 3) := by decide +kernel
theorem dX12_reads_10 : decode cX12_reads 10 = .ok (.aload_n 0, 1) := by decide +kernel
theorem dX12_reads_11 : decode cX12_reads 11 = .ok (.getfield 31, 3) := by decide +kernel
theorem dX12_reads_14 : decode cX12_reads 14 = .ok (.iconst 2, 1) := by decide +kernel
theorem dX12_reads_15 : decode cX12_reads 15 = .ok (.aload_n 0, 1) := by decide +kernel
theorem dX12_reads_16 : decode cX12_reads 16 = .ok (.getfield 241, 3) := by decide +kernel
theorem dX12_reads_19 : decode cX12_reads 19 = .ok (.imul, 1) := by decide +kernel
theorem dX12_reads_20 : decode cX12_reads 20 = .ok (.aload_n 0, 1) := by decide +kernel
theorem dX12_reads_21 : decode cX12_reads 21 = .ok (.getfield 211, 3) := by decide +kernel
theorem dX12_reads_24 : decode cX12_reads 24 = .ok (.iastore, 1) := by decide +kernel
theorem dX12_reads_25 : decode cX12_reads 25 = .ok (.aload_n 0, 1) := by decide +kernel
theorem dX12_reads_26 : decode cX12_reads 26 = .ok (.bipush 63, 2) := by decide +kernel
theorem dX12_reads_28 : decode cX12_reads 28 = .ok (.invokevirtual 232, 3) := by decide +kernel
theorem dX12_reads_31 : decode cX12_reads 31 = .ok (.ifCond .eq 23, 3) := by decide +kernel
theorem dX12_reads_34 : decode cX12_reads 34 = .ok (.aload_n 0, 1) := by decide +kernel
theorem dX12_reads_35 : decode cX12_reads 35 = .ok (.invokevirtual 244, 3) := by decide +kernel
theorem dX12_reads_0 : decode cX12_reads 0 = .ok (.iconst 1, 1) := by decide +kernel
theorem dX12_reads_1 : decode cX12_reads 1 = .ok (.istore_n 1, 1) := by decide +kernel
def D_X12_reads_104 (N : Nat) (k2 : mh_H → Nat → Int32 → Option mh_H) (h : mh_H) (l0 : Nat) (s0 : Int32) : Option mh_H :=
  k2 h l0 s0
set_option maxHeartbeats 4000000 in
set_option maxRecDepth 100000 in
theorem T_X12_reads_104 {P : mh_E → Prop} {N d : Nat} (hd : 43 ≤ d) {z : mh_H} {k2 : mh_H → Nat → Int32 → Option mh_H} (hk2 : ∀ (h : mh_H) (l0 : Nat) (l1 : Int32), k2 h l0 l1 = some z → mh_go P d mX12_reads 2 [some (.ref l0), some (.int l1)] [] h none z) {h : mh_H} {l0 : Nat} {s0 : Int32} (hq : D_X12_reads_104 N k2 h l0 s0 = some z) : mh_go P d mX12_reads 104 [some (.ref l0), none] [.int s0] h none z := by
  unfold D_X12_reads_104 at hq
  refine st_istore_n (pc := 104) (lv' := [some (.ref l0), some (.int s0)]) dX12_reads_104 rfl (by decide) rfl ?_
  refine st_goto (pc := 105) (tgt := 2) dX12_reads_105 (by decide) ?_
  exact hk2 _ _ _ hq
def D_X12_reads_103 (N : Nat) (k2 : mh_H → Nat → Int32 → Option mh_H) (h : mh_H) (l0 : Nat) : Option mh_H :=
  D_X12_reads_104 N k2 h l0 (0 : Int32)
set_option maxHeartbeats 4000000 in
set_option maxRecDepth 100000 in
theorem T_X12_reads_103 {P : mh_E → Prop} {N d : Nat} (hd : 43 ≤ d) {z : mh_H} {k2 : mh_H → Nat → Int32 → Option mh_H} (hk2 : ∀ (h : mh_H) (l0 : Nat) (l1 : Int32), k2 h l0 l1 = some z → mh_go P d mX12_reads 2 [some (.ref l0), some (.int l1)] [] h none z) {h : mh_H} {l0 : Nat} (hq : D_X12_reads_103 N k2 h l0 = some z) : mh_go P d mX12_reads 103 [some (.ref l0), none] [] h none z := by
  unfold D_X12_reads_103 at hq
  refine st_iconst (pc := 103) (v := (0 : Int32)) dX12_reads_103 rfl ?_
  exact T_X12_reads_104 hd hk2 hq
def D_X12_reads_54 (N : Nat) (k2 : mh_H → Nat → Int32 → Option mh_H) (h : mh_H) (l0 : Nat) : Option mh_H :=
  (gR h 12 l0 8).bind fun v1 =>
  (gI h 12 l0 10).bind fun v2 =>
  (gI h 12 l0 9).bind fun v3 =>
  (uI h v1 (((2 : Int32) * v2) + (1 : Int32)) v3).bind fun h4 =>
  (gI h4 12 l0 10).bind fun v5 =>
  (pI h4 12 l0 10 (v5 + (1 : Int32))).bind fun h6 =>
  (gI h6 12 l0 10).bind fun v7 =>
  if (6 : Int32) ≤ v7 then (D_X12_reads_103 N k2 h6 l0)
  else (kO h6 12 l0 <|
  (D_X12_takes_ N h6 l0 (59 : Int32)).bind fun q8 =>
  if q8.1 = 0 then (D_X12_reads_103 N k2 q8.2 l0)
  else (D_X12_reads_104 N k2 q8.2 l0 (1 : Int32)))
set_option maxHeartbeats 4000000 in
set_option maxRecDepth 100000 in
theorem T_X12_reads_54 {P : mh_E → Prop} {N d : Nat} (hd : 43 ≤ d) {z : mh_H} {k2 : mh_H → Nat → Int32 → Option mh_H} (hk2 : ∀ (h : mh_H) (l0 : Nat) (l1 : Int32), k2 h l0 l1 = some z → mh_go P d mX12_reads 2 [some (.ref l0), some (.int l1)] [] h none z) {h : mh_H} {l0 : Nat} (hq : D_X12_reads_54 N k2 h l0 = some z) : mh_go P d mX12_reads 54 [some (.ref l0), none] [] h none z := by
  unfold D_X12_reads_54 at hq
  refine st_aload_n (pc := 54) dX12_reads_54 rfl ?_
  refine bd_getr (pc := 55) hq dX12_reads_55 fl_12_31_12 rfl (fun v1 hq => ?_)
  refine st_iconst (pc := 58) (v := (2 : Int32)) dX12_reads_58 rfl ?_
  refine st_aload_n (pc := 59) dX12_reads_59 rfl ?_
  refine bd_geti (pc := 60) hq dX12_reads_60 fl_12_241_12 rfl (fun v2 hq => ?_)
  refine st_imul (pc := 63) dX12_reads_63 ?_
  refine st_iconst (pc := 64) (v := (1 : Int32)) dX12_reads_64 rfl ?_
  refine st_iadd (pc := 65) dX12_reads_65 ?_
  refine st_aload_n (pc := 66) dX12_reads_66 rfl ?_
  refine bd_geti (pc := 67) hq dX12_reads_67 fl_12_211_12 rfl (fun v3 hq => ?_)
  refine bd_iast (pc := 70) hq dX12_reads_70 (fun h4 hq => ?_)
  refine st_aload_n (pc := 71) dX12_reads_71 rfl ?_
  refine st_dup (pc := 72) dX12_reads_72 rfl ?_
  refine bd_geti (pc := 73) hq dX12_reads_73 fl_12_241_12 rfl (fun v5 hq => ?_)
  refine st_iconst (pc := 76) (v := (1 : Int32)) dX12_reads_76 rfl ?_
  refine st_iadd (pc := 77) dX12_reads_77 ?_
  refine bd_puti (pc := 78) hq dX12_reads_78 fl_12_241_12 (Or.inl rfl) rfl (fun h6 hq => ?_)
  refine st_aload_n (pc := 81) dX12_reads_81 rfl ?_
  refine bd_geti (pc := 82) hq dX12_reads_82 fl_12_241_12 rfl (fun v7 hq => ?_)
  refine st_bipush (pc := 85) (v := (6 : Int32)) dX12_reads_85 (by decide) ?_
  refine bd_icmp_ge (pc := 87) (tgt := 103) hq dX12_reads_87 (by decide) (fun _ hq => ?_) (fun _ hq => ?_)
  ·
    exact T_X12_reads_103 hd hk2 hq
  ·
    refine st_aload_n (pc := 90) dX12_reads_90 rfl ?_
    refine st_bipush (pc := 91) (v := (59 : Int32)) dX12_reads_91 (by decide) ?_
    obtain ⟨⟨hbq8, hkq8⟩, hq⟩ := mh_oi hq
    obtain ⟨q8, e8, hq⟩ := mh_ob hq
    refine st_invV (pc := 93) (ci := 12) (vs := [.int (59 : Int32)]) (rest := []) (st2 := [.int q8.1]) dX12_reads_93 okX12_takes_ (by decide) hkq8 hbq8 wd_1528 wd_1530 wp_71 pdX12_takes_ rfl rfl rfl rfl (Nat.le_trans (by decide) hd) (Nat.le_of_ble_eq_true rfl) (T_X12_takes_ (Nat.le_refl _) e8) rfl ?_
    refine bd_if_eq (pc := 96) (tgt := 103) hq dX12_reads_96 (by decide) (fun _ hq => ?_) (fun _ hq => ?_)
    ·
      exact T_X12_reads_103 hd hk2 hq
    ·
      refine st_iconst (pc := 99) (v := (1 : Int32)) dX12_reads_99 rfl ?_
      refine st_goto (pc := 100) (tgt := 104) dX12_reads_100 (by decide) ?_
      exact T_X12_reads_104 hd hk2 hq
def D_X12_reads_38 (N : Nat) (k2 : mh_H → Nat → Int32 → Option mh_H) : Nat → mh_H → Nat → Option mh_H
  | 0, _, _ => none
  | F + 1, h, l0 =>
    kO h 12 l0 <|
    (D_X12_takes_ N h l0 (38 : Int32)).bind fun q1 =>
    if q1.1 = 0 then (D_X12_reads_54 N k2 q1.2 l0)
    else (kO q1.2 12 l0 <|
    (D_X12_test N q1.2 l0).bind fun q2 =>
    (D_X12_reads_38 N k2 F) q2 l0)
set_option maxHeartbeats 4000000 in
set_option maxRecDepth 100000 in
theorem T_X12_reads_38 {P : mh_E → Prop} {N d : Nat} (hd : 43 ≤ d) {z : mh_H} {k2 : mh_H → Nat → Int32 → Option mh_H} (hk2 : ∀ (h : mh_H) (l0 : Nat) (l1 : Int32), k2 h l0 l1 = some z → mh_go P d mX12_reads 2 [some (.ref l0), some (.int l1)] [] h none z) : ∀ (F : Nat) (h : mh_H) (l0 : Nat), D_X12_reads_38 N k2 F h l0 = some z → mh_go P d mX12_reads 38 [some (.ref l0), none] [] h none z := by
  intro F
  induction F with
  | zero => intro h l0 hq; rw [D_X12_reads_38] at hq; cases hq
  | succ F ih =>
    intro h l0 hq
    rw [D_X12_reads_38] at hq
    refine st_aload_n (pc := 38) dX12_reads_38 rfl ?_
    refine st_bipush (pc := 39) (v := (38 : Int32)) dX12_reads_39 (by decide) ?_
    obtain ⟨⟨hbq1, hkq1⟩, hq⟩ := mh_oi hq
    obtain ⟨q1, e1, hq⟩ := mh_ob hq
    refine st_invV (pc := 41) (ci := 12) (vs := [.int (38 : Int32)]) (rest := []) (st2 := [.int q1.1]) dX12_reads_41 okX12_takes_ (by decide) hkq1 hbq1 wd_1528 wd_1530 wp_71 pdX12_takes_ rfl rfl rfl rfl (Nat.le_trans (by decide) hd) (Nat.le_of_ble_eq_true rfl) (T_X12_takes_ (Nat.le_refl _) e1) rfl ?_
    refine bd_if_eq (pc := 44) (tgt := 54) hq dX12_reads_44 (by decide) (fun _ hq => ?_) (fun _ hq => ?_)
    ·
      exact T_X12_reads_54 hd hk2 hq
    ·
      refine st_aload_n (pc := 47) dX12_reads_47 rfl ?_
      obtain ⟨⟨hbq2, hkq2⟩, hq⟩ := mh_oi hq
      obtain ⟨q2, e2, hq⟩ := mh_ob hq
      refine st_invV (pc := 48) (ci := 12) (vs := []) (rest := []) (st2 := []) dX12_reads_48 okX12_test (by decide) hkq2 hbq2 wd_1532 wd_1534 wp_72 pdX12_test rfl rfl rfl rfl (Nat.le_trans (by decide) hd) (Nat.le_of_ble_eq_true rfl) (T_X12_test (Nat.le_refl _) e2) rfl ?_
      refine st_goto (pc := 51) (tgt := 38) dX12_reads_51 (by decide) ?_
      exact ih _ _ hq
def D_X12_reads_2 (N : Nat) : Nat → mh_H → Nat → Int32 → Option mh_H
  | 0, _, _, _ => none
  | F + 1, h, l0, l1 =>
    if l1 = 0 then (some h)
    else (kO h 12 l0 <|
    (D_X12_sum N 12 h l0).bind fun q1 =>
    (gR q1 12 l0 8).bind fun v2 =>
    (gI q1 12 l0 10).bind fun v3 =>
    (gI q1 12 l0 9).bind fun v4 =>
    (uI q1 v2 ((2 : Int32) * v3) v4).bind fun h5 =>
    kO h5 12 l0 <|
    (D_X12_takes_ N h5 l0 (63 : Int32)).bind fun q6 =>
    if q6.1 = 0 then (D_X12_reads_54 N (D_X12_reads_2 N F) q6.2 l0)
    else (kO q6.2 12 l0 <|
    (D_X12_test N q6.2 l0).bind fun q7 =>
    D_X12_reads_38 N (D_X12_reads_2 N F) N q7 l0))
set_option maxHeartbeats 4000000 in
set_option maxRecDepth 100000 in
theorem T_X12_reads_2 {P : mh_E → Prop} {N d : Nat} (hd : 43 ≤ d) {z : mh_H} : ∀ (F : Nat) (h : mh_H) (l0 : Nat) (l1 : Int32), D_X12_reads_2 N F h l0 l1 = some z → mh_go P d mX12_reads 2 [some (.ref l0), some (.int l1)] [] h none z := by
  intro F
  induction F with
  | zero => intro h l0 l1 hq; rw [D_X12_reads_2] at hq; cases hq
  | succ F ih =>
    intro h l0 l1 hq
    rw [D_X12_reads_2] at hq
    refine st_iload_n (pc := 2) dX12_reads_2 rfl ?_
    refine bd_if_eq (pc := 3) (tgt := 108) hq dX12_reads_3 (by decide) (fun _ hq => ?_) (fun _ hq => ?_)
    ·
      exact bd_vret (pc := 108) hq dX12_reads_108 rfl
    ·
      refine st_aload_n (pc := 6) dX12_reads_6 rfl ?_
      obtain ⟨⟨hbq1, hkq1⟩, hq⟩ := mh_oi hq
      obtain ⟨q1, e1, hq⟩ := mh_ob hq
      refine st_invV (pc := 7) (ci := 12) (vs := []) (rest := []) (st2 := []) dX12_reads_7 okX12_sum (by decide) hkq1 hbq1 wd_1503 wd_1505 wp_66 pdX12_sum rfl rfl rfl rfl (Nat.le_trans (by decide) hd) (Nat.le_of_ble_eq_true rfl) (T_X12_sum 12 _ (Nat.le_refl _) _ _ _ e1) rfl ?_
      refine st_aload_n (pc := 10) dX12_reads_10 rfl ?_
      refine bd_getr (pc := 11) hq dX12_reads_11 fl_12_31_12 rfl (fun v2 hq => ?_)
      refine st_iconst (pc := 14) (v := (2 : Int32)) dX12_reads_14 rfl ?_
      refine st_aload_n (pc := 15) dX12_reads_15 rfl ?_
      refine bd_geti (pc := 16) hq dX12_reads_16 fl_12_241_12 rfl (fun v3 hq => ?_)
      refine st_imul (pc := 19) dX12_reads_19 ?_
      refine st_aload_n (pc := 20) dX12_reads_20 rfl ?_
      refine bd_geti (pc := 21) hq dX12_reads_21 fl_12_211_12 rfl (fun v4 hq => ?_)
      refine bd_iast (pc := 24) hq dX12_reads_24 (fun h5 hq => ?_)
      refine st_aload_n (pc := 25) dX12_reads_25 rfl ?_
      refine st_bipush (pc := 26) (v := (63 : Int32)) dX12_reads_26 (by decide) ?_
      obtain ⟨⟨hbq6, hkq6⟩, hq⟩ := mh_oi hq
      obtain ⟨q6, e6, hq⟩ := mh_ob hq
      refine st_invV (pc := 28) (ci := 12) (vs := [.int (63 : Int32)]) (rest := []) (st2 := [.int q6.1]) dX12_reads_28 okX12_takes_ (by decide) hkq6 hbq6 wd_1528 wd_1530 wp_71 pdX12_takes_ rfl rfl rfl rfl (Nat.le_trans (by decide) hd) (Nat.le_of_ble_eq_true rfl) (T_X12_takes_ (Nat.le_refl _) e6) rfl ?_
      refine bd_if_eq (pc := 31) (tgt := 54) hq dX12_reads_31 (by decide) (fun _ hq => ?_) (fun _ hq => ?_)
      ·
        refine st_lesS (lv' := [some (.ref l0), none]) ⟨Or.inr rfl, Or.inl rfl, trivial⟩ ?_
        exact T_X12_reads_54 hd ih hq
      ·
        refine st_aload_n (pc := 34) dX12_reads_34 rfl ?_
        obtain ⟨⟨hbq7, hkq7⟩, hq⟩ := mh_oi hq
        obtain ⟨q7, e7, hq⟩ := mh_ob hq
        refine st_invV (pc := 35) (ci := 12) (vs := []) (rest := []) (st2 := []) dX12_reads_35 okX12_test (by decide) hkq7 hbq7 wd_1532 wd_1534 wp_72 pdX12_test rfl rfl rfl rfl (Nat.le_trans (by decide) hd) (Nat.le_of_ble_eq_true rfl) (T_X12_test (Nat.le_refl _) e7) rfl ?_
        refine st_lesS (lv' := [some (.ref l0), none]) ⟨Or.inr rfl, Or.inl rfl, trivial⟩ ?_
        exact T_X12_reads_38 hd ih N _ _ hq
def D_X12_reads (N : Nat) (h : mh_H) (l0 : Nat) : Option mh_H :=
  D_X12_reads_2 N N h l0 (1 : Int32)
set_option maxHeartbeats 4000000 in
set_option maxRecDepth 100000 in
theorem T_X12_reads {P : mh_E → Prop} {N d : Nat} (hd : 43 ≤ d) {z : mh_H} {h : mh_H} {l0 : Nat} (hq : D_X12_reads N h l0 = some z) : mh_go P d mX12_reads 0 [some (.ref l0), none] [] h none z := by
  unfold D_X12_reads at hq
  refine st_iconst (pc := 0) (v := (1 : Int32)) dX12_reads_0 rfl ?_
  refine st_istore_n (pc := 1) (lv' := [some (.ref l0), some (.int (1 : Int32))]) dX12_reads_1 rfl (by decide) rfl ?_
  exact T_X12_reads_2 hd N _ _ _ hq
-- HoleWaterModel.text(I)I
theorem dX12_text_157 : decode cX12_text 157 = .ok (.iload 4, 2) := by decide +kernel
theorem dX12_text_159 : decode cX12_text 159 = .ok (.aload_n 0, 1) := by decide +kernel
theorem dX12_text_160 : decode cX12_text 160 = .ok (.getfield 211, 3) := by decide +kernel
theorem dX12_text_163 : decode cX12_text 163 = .ok (.if_icmp .ge 28, 3) := by decide +kernel
theorem dX12_text_191 : decode cX12_text 191 = .ok (.aload_n 0, 1) := by decide +kernel
theorem dX12_text_192 : decode cX12_text 192 = .ok (.getfield 241, 3) := by decide +kernel
theorem dX12_text_195 : decode cX12_text 195 = .ok (.ireturn, 1) := by decide +kernel
theorem dX12_text_166 : decode cX12_text 166 = .ok (.aload_n 0, 1) := by decide +kernel
theorem dX12_text_167 : decode cX12_text 167 = .ok (.getfield 9, 3) := by decide +kernel
theorem dX12_text_170 : decode cX12_text 170 = .ok (.iload_n 3, 1) := by decide +kernel
theorem dX12_text_171 : decode cX12_text 171 = .ok (.bipush 13, 2) := by decide +kernel
theorem dX12_text_173 : decode cX12_text 173 = .ok (.iadd, 1) := by decide +kernel
theorem dX12_text_174 : decode cX12_text 174 = .ok (.iload 4, 2) := by decide +kernel
theorem dX12_text_176 : decode cX12_text 176 = .ok (.iadd, 1) := by decide +kernel
theorem dX12_text_177 : decode cX12_text 177 = .ok (.aload_n 0, 1) := by decide +kernel
theorem dX12_text_178 : decode cX12_text 178 = .ok (.getfield 28, 3) := by decide +kernel
theorem dX12_text_181 : decode cX12_text 181 = .ok (.iload 4, 2) := by decide +kernel
theorem dX12_text_183 : decode cX12_text 183 = .ok (.iaload, 1) := by decide +kernel
theorem dX12_text_184 : decode cX12_text 184 = .ok (.iastore, 1) := by decide +kernel
theorem dX12_text_185 : decode cX12_text 185 = .ok (.iinc 4 1, 3) := by decide +kernel
theorem dX12_text_188 : decode cX12_text 188 = .ok (.goto (-31), 3) := by decide +kernel
theorem dX12_text_119 : decode cX12_text 119 = .ok (.iload 4, 2) := by decide +kernel
theorem dX12_text_121 : decode cX12_text 121 = .ok (.iconst 2, 1) := by decide +kernel
theorem dX12_text_122 : decode cX12_text 122 = .ok (.aload_n 0, 1) := by decide +kernel
theorem dX12_text_123 : decode cX12_text 123 = .ok (.getfield 241, 3) := by decide +kernel
theorem dX12_text_126 : decode cX12_text 126 = .ok (.imul, 1) := by decide +kernel
theorem dX12_text_127 : decode cX12_text 127 = .ok (.if_icmp .ge 27, 3) := by decide +kernel
theorem dX12_text_154 : decode cX12_text 154 = .ok (.iconst 0, 1) := by decide +kernel
theorem dX12_text_155 : decode cX12_text 155 = .ok (.istore 4, 2) := by decide +kernel
theorem dX12_text_130 : decode cX12_text 130 = .ok (.aload_n 0, 1) := by decide +kernel
theorem dX12_text_131 : decode cX12_text 131 = .ok (.getfield 9, 3) := by decide +kernel
theorem dX12_text_134 : decode cX12_text 134 = .ok (.iload_n 3, 1) := by decide +kernel
theorem dX12_text_135 : decode cX12_text 135 = .ok (.iconst 1, 1) := by decide +kernel
theorem dX12_text_136 : decode cX12_text 136 = .ok (.iadd, 1) := by decide +kernel
theorem dX12_text_137 : decode cX12_text 137 = .ok (.iload 4, 2) := by decide +kernel
theorem dX12_text_139 : decode cX12_text 139 = .ok (.iadd, 1) := by decide +kernel
theorem dX12_text_140 : decode cX12_text 140 = .ok (.aload_n 0, 1) := by decide +kernel
theorem dX12_text_141 : decode cX12_text 141 = .ok (.getfield 31, 3) := by decide +kernel
theorem dX12_text_144 : decode cX12_text 144 = .ok (.iload 4, 2) := by decide +kernel
theorem dX12_text_146 : decode cX12_text 146 = .ok (.iaload, 1) := by decide +kernel
theorem dX12_text_147 : decode cX12_text 147 = .ok (.iastore, 1) := by decide +kernel
theorem dX12_text_148 : decode cX12_text 148 = .ok (.iinc 4 1, 3) := by decide +kernel
theorem dX12_text_151 : decode cX12_text 151 = .ok (.goto (-32), 3) := by decide +kernel
theorem dX12_text_76 : decode cX12_text 76 = .ok (.istore_n 2, 1) := by decide +kernel
theorem dX12_text_77 : decode cX12_text 77 = .ok (.aload_n 0, 1) := by decide +kernel
theorem dX12_text_78 : decode cX12_text 78 = .ok (.getfield 9, 3) := by decide +kernel
theorem dX12_text_81 : decode cX12_text 81 = .ok (.bipush 6, 2) := by decide +kernel
theorem dX12_text_83 : decode cX12_text 83 = .ok (.iconst 0, 1) := by decide +kernel
theorem dX12_text_84 : decode cX12_text 84 = .ok (.iastore, 1) := by decide +kernel
theorem dX12_text_85 : decode cX12_text 85 = .ok (.iload_n 2, 1) := by decide +kernel
theorem dX12_text_86 : decode cX12_text 86 = .ok (.ifCond .ne 11, 3) := by decide +kernel
theorem dX12_text_89 : decode cX12_text 89 = .ok (.bipush (-10), 2) := by decide +kernel
theorem dX12_text_91 : decode cX12_text 91 = .ok (.aload_n 0, 1) := by decide +kernel
theorem dX12_text_92 : decode cX12_text 92 = .ok (.getfield 203, 3) := by decide +kernel
theorem dX12_text_95 : decode cX12_text 95 = .ok (.isub, 1) := by decide +kernel
theorem dX12_text_96 : decode cX12_text 96 = .ok (.ireturn, 1) := by decide +kernel
theorem dX12_text_97 : decode cX12_text 97 = .ok (.sipush 7556, 3) := by decide +kernel
theorem dX12_text_100 : decode cX12_text 100 = .ok (.bipush 77, 2) := by decide +kernel
theorem dX12_text_102 : decode cX12_text 102 = .ok (.iload_n 1, 1) := by decide +kernel
theorem dX12_text_103 : decode cX12_text 103 = .ok (.imul, 1) := by decide +kernel
theorem dX12_text_104 : decode cX12_text 104 = .ok (.iadd, 1) := by decide +kernel
theorem dX12_text_105 : decode cX12_text 105 = .ok (.istore_n 3, 1) := by decide +kernel
theorem dX12_text_106 : decode cX12_text 106 = .ok (.aload_n 0, 1) := by decide +kernel
theorem dX12_text_107 : decode cX12_text 107 = .ok (.getfield 9, 3) := by decide +kernel
theorem dX12_text_110 : decode cX12_text 110 = .ok (.iload_n 3, 1) := by decide +kernel
theorem dX12_text_111 : decode cX12_text 111 = .ok (.aload_n 0, 1) := by decide +kernel
theorem dX12_text_112 : decode cX12_text 112 = .ok (.getfield 241, 3) := by decide +kernel
theorem dX12_text_115 : decode cX12_text 115 = .ok (.iastore, 1) := by decide +kernel
theorem dX12_text_116 : decode cX12_text 116 = .ok (.iconst 0, 1) := by decide +kernel
theorem dX12_text_117 : decode cX12_text 117 = .ok (.istore 4, 2) := by decide +kernel
theorem dX12_text_75 : decode cX12_text 75 = .ok (.iconst 0, 1) := by decide +kernel
theorem dX12_text_0 : decode cX12_text 0 = .ok (.iload_n 1, 1) := by decide +kernel
theorem dX12_text_1 : decode cX12_text 1 = .ok (.i2l, 1) := by decide +kernel
theorem dX12_text_2 : decode cX12_text 2 = .ok (.lconst 0, 1) := by decide +kernel
theorem dX12_text_3 : decode cX12_text 3 = .ok (.lconst 1, 1) := by decide +kernel
theorem dX12_text_4 : decode cX12_text 4 = .ok (.invokestatic 65, 3) := by decide +kernel
theorem dX12_text_7 : decode cX12_text 7 = .ok (.ifCond .ne 9, 3) := by decide +kernel
theorem dX12_text_10 : decode cX12_text 10 = .ok (.aload_n 0, 1) := by decide +kernel
theorem dX12_text_11 : decode cX12_text 11 = .ok (.iconst 1, 1) := by decide +kernel
theorem dX12_text_12 : decode cX12_text 12 = .ok (.invokevirtual 80, 3) := by decide +kernel
theorem dX12_text_15 : decode cX12_text 15 = .ok (.ireturn, 1) := by decide +kernel
theorem dX12_text_16 : decode cX12_text 16 = .ok (.aload_n 0, 1) := by decide +kernel
theorem dX12_text_17 : decode cX12_text 17 = .ok (.iconst 0, 1) := by decide +kernel
theorem dX12_text_18 : decode cX12_text 18 = .ok (.putfield 211, 3) := by decide +kernel
theorem dX12_text_21 : decode cX12_text 21 = .ok (.aload_n 0, 1) := by decide +kernel
theorem dX12_text_22 : decode cX12_text 22 = .ok (.iconst 0, 1) := by decide +kernel
theorem dX12_text_23 : decode cX12_text 23 = .ok (.putfield 241, 3) := by decide +kernel
theorem dX12_text_26 : decode cX12_text 26 = .ok (.aload_n 0, 1) := by decide +kernel
theorem dX12_text_27 : decode cX12_text 27 = .ok (.iconst 0, 1) := by decide +kernel
theorem dX12_text_28 : decode cX12_text 28 = .ok (.putfield 203, 3) := by decide +kernel
theorem dX12_text_31 : decode cX12_text 31 = .ok (.aload_n 0, 1) := by decide +kernel
theorem dX12_text_32 : decode cX12_text 32 = .ok (.iconst 0, 1) := by decide +kernel
theorem dX12_text_33 : decode cX12_text 33 = .ok (.putfield 226, 3) := by decide +kernel
theorem dX12_text_36 : decode cX12_text 36 = .ok (.aload_n 0, 1) := by decide +kernel
theorem dX12_text_37 : decode cX12_text 37 = .ok (.iload_n 1, 1) := by decide +kernel
theorem dX12_text_38 : decode cX12_text 38 = .ok (.putfield 220, 3) := by decide +kernel
theorem dX12_text_41 : decode cX12_text 41 = .ok (.aload_n 0, 1) := by decide +kernel
theorem dX12_text_42 : decode cX12_text 42 = .ok (.iconst 0, 1) := by decide +kernel
theorem dX12_text_43 : decode cX12_text 43 = .ok (.putfield 199, 3) := by decide +kernel
theorem dX12_text_46 : decode cX12_text 46 = .ok (.aload_n 0, 1) := by decide +kernel
theorem dX12_text_47 : decode cX12_text 47 = .ok (.invokevirtual 247, 3) := by decide +kernel
theorem dX12_text_50 : decode cX12_text 50 = .ok (.aload_n 0, 1) := by decide +kernel
theorem dX12_text_51 : decode cX12_text 51 = .ok (.getfield 199, 3) := by decide +kernel
theorem dX12_text_54 : decode cX12_text 54 = .ok (.ifCond .ne 21, 3) := by decide +kernel
theorem dX12_text_57 : decode cX12_text 57 = .ok (.aload_n 0, 1) := by decide +kernel
theorem dX12_text_58 : decode cX12_text 58 = .ok (.getfield 203, 3) := by decide +kernel
theorem dX12_text_61 : decode cX12_text 61 = .ok (.aload_n 0, 1) := by decide +kernel
theorem dX12_text_62 : decode cX12_text 62 = .ok (.getfield 9, 3) := by decide +kernel
theorem dX12_text_65 : decode cX12_text 65 = .ok (.bipush 6, 2) := by decide +kernel
theorem dX12_text_67 : decode cX12_text 67 = .ok (.iaload, 1) := by decide +kernel
theorem dX12_text_68 : decode cX12_text 68 = .ok (.if_icmp .ne 7, 3) := by decide +kernel
theorem dX12_text_71 : decode cX12_text 71 = .ok (.iconst 1, 1) := by decide +kernel
theorem dX12_text_72 : decode cX12_text 72 = .ok (.goto 4, 3) := by decide +kernel
def D_X12_text_157 (N : Nat) : Nat → mh_H → Nat → Int32 → Int32 → Option (Int32 × mh_H)
  | 0, _, _, _, _ => none
  | F + 1, h, l0, l3, l4 =>
    (gI h 12 l0 9).bind fun v1 =>
    if v1 ≤ l4 then ((gI h 12 l0 10).bind fun v2 =>
    some (v2, h))
    else ((gR h 12 l0 0).bind fun v2 =>
    (gR h 12 l0 7).bind fun v3 =>
    (aI h v3 l4).bind fun v4 =>
    (uI h v2 ((l3 + (13 : Int32)) + l4) v4).bind fun h5 =>
    (D_X12_text_157 N F) h5 l0 l3 (l4 + Int32.ofInt (1)))
set_option maxHeartbeats 4000000 in
set_option maxRecDepth 100000 in
theorem T_X12_text_157 {P : mh_E → Prop} {N d : Nat} (hd : 44 ≤ d) {z : (Int32 × mh_H)} : ∀ (F : Nat) (h : mh_H) (l0 : Nat) (l3 : Int32) (l4 : Int32), D_X12_text_157 N F h l0 l3 l4 = some z → mh_go P d mX12_text 157 [some (.ref l0), none, none, some (.int l3), some (.int l4)] [] h (some (.int z.1)) z.2 := by
  intro F
  induction F with
  | zero => intro h l0 l3 l4 hq; rw [D_X12_text_157] at hq; cases hq
  | succ F ih =>
    intro h l0 l3 l4 hq
    rw [D_X12_text_157] at hq
    refine st_iload (pc := 157) dX12_text_157 rfl ?_
    refine st_aload_n (pc := 159) dX12_text_159 rfl ?_
    refine bd_geti (pc := 160) hq dX12_text_160 fl_12_211_12 rfl (fun v1 hq => ?_)
    refine bd_icmp_ge (pc := 163) (tgt := 191) hq dX12_text_163 (by decide) (fun _ hq => ?_) (fun _ hq => ?_)
    ·
      refine st_aload_n (pc := 191) dX12_text_191 rfl ?_
      refine bd_geti (pc := 192) hq dX12_text_192 fl_12_241_12 rfl (fun v2 hq => ?_)
      exact bd_iret (pc := 195) hq dX12_text_195 rfl
    ·
      refine st_aload_n (pc := 166) dX12_text_166 rfl ?_
      refine bd_getr (pc := 167) hq dX12_text_167 fl_12_9_12 rfl (fun v2 hq => ?_)
      refine st_iload_n (pc := 170) dX12_text_170 rfl ?_
      refine st_bipush (pc := 171) (v := (13 : Int32)) dX12_text_171 (by decide) ?_
      refine st_iadd (pc := 173) dX12_text_173 ?_
      refine st_iload (pc := 174) dX12_text_174 rfl ?_
      refine st_iadd (pc := 176) dX12_text_176 ?_
      refine st_aload_n (pc := 177) dX12_text_177 rfl ?_
      refine bd_getr (pc := 178) hq dX12_text_178 fl_12_28_12 rfl (fun v3 hq => ?_)
      refine st_iload (pc := 181) dX12_text_181 rfl ?_
      refine bd_iald (pc := 183) hq dX12_text_183 (fun v4 hq => ?_)
      refine bd_iast (pc := 184) hq dX12_text_184 (fun h5 hq => ?_)
      refine st_iinc (pc := 185) (lv' := [some (.ref l0), none, none, some (.int l3), some (.int (l4 + Int32.ofInt (1)))]) dX12_text_185 rfl rfl (by decide) rfl ?_
      refine st_goto (pc := 188) (tgt := 157) dX12_text_188 (by decide) ?_
      exact ih _ _ _ _ hq
def D_X12_text_119 (N : Nat) : Nat → mh_H → Nat → Int32 → Int32 → Option (Int32 × mh_H)
  | 0, _, _, _, _ => none
  | F + 1, h, l0, l3, l4 =>
    (gI h 12 l0 10).bind fun v1 =>
    if ((2 : Int32) * v1) ≤ l4 then (D_X12_text_157 N N h l0 l3 (0 : Int32))
    else ((gR h 12 l0 0).bind fun v2 =>
    (gR h 12 l0 8).bind fun v3 =>
    (aI h v3 l4).bind fun v4 =>
    (uI h v2 ((l3 + (1 : Int32)) + l4) v4).bind fun h5 =>
    (D_X12_text_119 N F) h5 l0 l3 (l4 + Int32.ofInt (1)))
set_option maxHeartbeats 4000000 in
set_option maxRecDepth 100000 in
theorem T_X12_text_119 {P : mh_E → Prop} {N d : Nat} (hd : 44 ≤ d) {z : (Int32 × mh_H)} : ∀ (F : Nat) (h : mh_H) (l0 : Nat) (l3 : Int32) (l4 : Int32), D_X12_text_119 N F h l0 l3 l4 = some z → mh_go P d mX12_text 119 [some (.ref l0), none, none, some (.int l3), some (.int l4)] [] h (some (.int z.1)) z.2 := by
  intro F
  induction F with
  | zero => intro h l0 l3 l4 hq; rw [D_X12_text_119] at hq; cases hq
  | succ F ih =>
    intro h l0 l3 l4 hq
    rw [D_X12_text_119] at hq
    refine st_iload (pc := 119) dX12_text_119 rfl ?_
    refine st_iconst (pc := 121) (v := (2 : Int32)) dX12_text_121 rfl ?_
    refine st_aload_n (pc := 122) dX12_text_122 rfl ?_
    refine bd_geti (pc := 123) hq dX12_text_123 fl_12_241_12 rfl (fun v1 hq => ?_)
    refine st_imul (pc := 126) dX12_text_126 ?_
    refine bd_icmp_ge (pc := 127) (tgt := 154) hq dX12_text_127 (by decide) (fun _ hq => ?_) (fun _ hq => ?_)
    ·
      refine st_iconst (pc := 154) (v := (0 : Int32)) dX12_text_154 rfl ?_
      refine st_istore (pc := 155) (lv' := [some (.ref l0), none, none, some (.int l3), some (.int (0 : Int32))]) dX12_text_155 rfl (by decide) rfl ?_
      exact T_X12_text_157 hd N _ _ _ _ hq
    ·
      refine st_aload_n (pc := 130) dX12_text_130 rfl ?_
      refine bd_getr (pc := 131) hq dX12_text_131 fl_12_9_12 rfl (fun v2 hq => ?_)
      refine st_iload_n (pc := 134) dX12_text_134 rfl ?_
      refine st_iconst (pc := 135) (v := (1 : Int32)) dX12_text_135 rfl ?_
      refine st_iadd (pc := 136) dX12_text_136 ?_
      refine st_iload (pc := 137) dX12_text_137 rfl ?_
      refine st_iadd (pc := 139) dX12_text_139 ?_
      refine st_aload_n (pc := 140) dX12_text_140 rfl ?_
      refine bd_getr (pc := 141) hq dX12_text_141 fl_12_31_12 rfl (fun v3 hq => ?_)
      refine st_iload (pc := 144) dX12_text_144 rfl ?_
      refine bd_iald (pc := 146) hq dX12_text_146 (fun v4 hq => ?_)
      refine bd_iast (pc := 147) hq dX12_text_147 (fun h5 hq => ?_)
      refine st_iinc (pc := 148) (lv' := [some (.ref l0), none, none, some (.int l3), some (.int (l4 + Int32.ofInt (1)))]) dX12_text_148 rfl rfl (by decide) rfl ?_
      refine st_goto (pc := 151) (tgt := 119) dX12_text_151 (by decide) ?_
      exact ih _ _ _ _ hq
def D_X12_text_76 (N : Nat) (h : mh_H) (l0 : Nat) (l1 : Int32) (s0 : Int32) : Option (Int32 × mh_H) :=
  (gR h 12 l0 0).bind fun v1 =>
  (uI h v1 (6 : Int32) (0 : Int32)).bind fun h2 =>
  if s0 = 0 then ((gI h2 12 l0 11).bind fun v3 =>
  some ((-10 : Int32) - v3, h2))
  else ((gR h2 12 l0 0).bind fun v3 =>
  (gI h2 12 l0 10).bind fun v4 =>
  (uI h2 v3 ((7556 : Int32) + ((77 : Int32) * l1)) v4).bind fun h5 =>
  D_X12_text_119 N N h5 l0 ((7556 : Int32) + ((77 : Int32) * l1)) (0 : Int32))
set_option maxHeartbeats 4000000 in
set_option maxRecDepth 100000 in
theorem T_X12_text_76 {P : mh_E → Prop} {N d : Nat} (hd : 44 ≤ d) {z : (Int32 × mh_H)} {h : mh_H} {l0 : Nat} {l1 : Int32} {s0 : Int32} (hq : D_X12_text_76 N h l0 l1 s0 = some z) : mh_go P d mX12_text 76 [some (.ref l0), some (.int l1), none, none, none] [.int s0] h (some (.int z.1)) z.2 := by
  unfold D_X12_text_76 at hq
  refine st_istore_n (pc := 76) (lv' := [some (.ref l0), some (.int l1), some (.int s0), none, none]) dX12_text_76 rfl (by decide) rfl ?_
  refine st_aload_n (pc := 77) dX12_text_77 rfl ?_
  refine bd_getr (pc := 78) hq dX12_text_78 fl_12_9_12 rfl (fun v1 hq => ?_)
  refine st_bipush (pc := 81) (v := (6 : Int32)) dX12_text_81 (by decide) ?_
  refine st_iconst (pc := 83) (v := (0 : Int32)) dX12_text_83 rfl ?_
  refine bd_iast (pc := 84) hq dX12_text_84 (fun h2 hq => ?_)
  refine st_iload_n (pc := 85) dX12_text_85 rfl ?_
  refine bd_if_ne (pc := 86) (tgt := 97) hq dX12_text_86 (by decide) (fun _ hq => ?_) (fun _ hq => ?_)
  ·
    refine st_bipush (pc := 89) (v := (-10 : Int32)) dX12_text_89 (by decide) ?_
    refine st_aload_n (pc := 91) dX12_text_91 rfl ?_
    refine bd_geti (pc := 92) hq dX12_text_92 fl_12_203_12 rfl (fun v3 hq => ?_)
    refine st_isub (pc := 95) dX12_text_95 ?_
    exact bd_iret (pc := 96) hq dX12_text_96 rfl
  ·
    refine st_sipush (pc := 97) (v := (7556 : Int32)) dX12_text_97 (by decide) ?_
    refine st_bipush (pc := 100) (v := (77 : Int32)) dX12_text_100 (by decide) ?_
    refine st_iload_n (pc := 102) dX12_text_102 rfl ?_
    refine st_imul (pc := 103) dX12_text_103 ?_
    refine st_iadd (pc := 104) dX12_text_104 ?_
    refine st_istore_n (pc := 105) (lv' := [some (.ref l0), some (.int l1), some (.int s0), some (.int ((7556 : Int32) + ((77 : Int32) * l1))), none]) dX12_text_105 rfl (by decide) rfl ?_
    refine st_aload_n (pc := 106) dX12_text_106 rfl ?_
    refine bd_getr (pc := 107) hq dX12_text_107 fl_12_9_12 rfl (fun v3 hq => ?_)
    refine st_iload_n (pc := 110) dX12_text_110 rfl ?_
    refine st_aload_n (pc := 111) dX12_text_111 rfl ?_
    refine bd_geti (pc := 112) hq dX12_text_112 fl_12_241_12 rfl (fun v4 hq => ?_)
    refine bd_iast (pc := 115) hq dX12_text_115 (fun h5 hq => ?_)
    refine st_iconst (pc := 116) (v := (0 : Int32)) dX12_text_116 rfl ?_
    refine st_istore (pc := 117) (lv' := [some (.ref l0), some (.int l1), some (.int s0), some (.int ((7556 : Int32) + ((77 : Int32) * l1))), some (.int (0 : Int32))]) dX12_text_117 rfl (by decide) rfl ?_
    refine st_lesS (lv' := [some (.ref l0), none, none, some (.int ((7556 : Int32) + ((77 : Int32) * l1))), some (.int (0 : Int32))]) ⟨Or.inr rfl, Or.inl rfl, Or.inl rfl, Or.inr rfl, Or.inr rfl, trivial⟩ ?_
    exact T_X12_text_119 hd N _ _ _ _ hq
def D_X12_text_75 (N : Nat) (h : mh_H) (l0 : Nat) (l1 : Int32) : Option (Int32 × mh_H) :=
  D_X12_text_76 N h l0 l1 (0 : Int32)
set_option maxHeartbeats 4000000 in
set_option maxRecDepth 100000 in
theorem T_X12_text_75 {P : mh_E → Prop} {N d : Nat} (hd : 44 ≤ d) {z : (Int32 × mh_H)} {h : mh_H} {l0 : Nat} {l1 : Int32} (hq : D_X12_text_75 N h l0 l1 = some z) : mh_go P d mX12_text 75 [some (.ref l0), some (.int l1), none, none, none] [] h (some (.int z.1)) z.2 := by
  unfold D_X12_text_75 at hq
  refine st_iconst (pc := 75) (v := (0 : Int32)) dX12_text_75 rfl ?_
  exact T_X12_text_76 hd hq
def D_X12_text (N : Nat) (h : mh_H) (l0 : Nat) (l1 : Int32) : Option (Int32 × mh_H) :=
  (D_X12_in N h l1.toInt64 (0 : Int64) (1 : Int64)).bind fun q1 =>
  if q1.1 = 0 then (kO q1.2 12 l0 <|
  (D_X12_error N q1.2 l0 (1 : Int32)).bind fun q2 =>
  some (q2.1, q2.2))
  else ((pI q1.2 12 l0 9 (0 : Int32)).bind fun h2 =>
  (pI h2 12 l0 10 (0 : Int32)).bind fun h3 =>
  (pI h3 12 l0 11 (0 : Int32)).bind fun h4 =>
  (pI h4 12 l0 12 (0 : Int32)).bind fun h5 =>
  (pI h5 12 l0 13 l1).bind fun h6 =>
  (pB h6 12 l0 14 (0 : Int32)).bind fun h7 =>
  kO h7 12 l0 <|
  (D_X12_reads N h7 l0).bind fun q8 =>
  (gI q8 12 l0 14).bind fun v9 =>
  if v9 = 0 then ((gI q8 12 l0 11).bind fun v10 =>
  (gR q8 12 l0 0).bind fun v11 =>
  (aI q8 v11 (6 : Int32)).bind fun v12 =>
  if v10 = v12 then (D_X12_text_76 N q8 l0 l1 (1 : Int32))
  else (D_X12_text_75 N q8 l0 l1))
  else (D_X12_text_75 N q8 l0 l1))
set_option maxHeartbeats 4000000 in
set_option maxRecDepth 100000 in
theorem T_X12_text {P : mh_E → Prop} {N d : Nat} (hd : 44 ≤ d) {z : (Int32 × mh_H)} {h : mh_H} {l0 : Nat} {l1 : Int32} (hq : D_X12_text N h l0 l1 = some z) : mh_go P d mX12_text 0 [some (.ref l0), some (.int l1), none, none, none] [] h (some (.int z.1)) z.2 := by
  unfold D_X12_text at hq
  refine st_iload_n (pc := 0) dX12_text_0 rfl ?_
  refine st_i2l (pc := 1) dX12_text_1 ?_
  refine st_lconst (pc := 2) (v := 0) dX12_text_2 rfl ?_
  refine st_lconst (pc := 3) (v := 1) dX12_text_3 rfl ?_
  obtain ⟨q1, e1, hq⟩ := mh_ob hq
  refine st_invS (pc := 4) (Y := mX12_in) (vs := [.long l1.toInt64, .long (0 : Int64), .long (1 : Int64)]) (rest := []) (st2 := [.int q1.1]) dX12_text_4 okX12_in wd_1270 wd_1271 pdX12_in rfl rfl rfl rfl (Nat.le_trans (by decide) hd) (Nat.le_of_ble_eq_true rfl) (T_X12_in (Nat.le_refl _) e1) rfl ?_
  refine bd_if_ne (pc := 7) (tgt := 16) hq dX12_text_7 (by decide) (fun _ hq => ?_) (fun _ hq => ?_)
  ·
    refine st_aload_n (pc := 10) dX12_text_10 rfl ?_
    refine st_iconst (pc := 11) (v := (1 : Int32)) dX12_text_11 rfl ?_
    obtain ⟨⟨hbq2, hkq2⟩, hq⟩ := mh_oi hq
    obtain ⟨q2, e2, hq⟩ := mh_ob hq
    refine st_invV (pc := 12) (ci := 12) (vs := [.int (1 : Int32)]) (rest := []) (st2 := [.int q2.1]) dX12_text_12 okX12_error (by decide) hkq2 hbq2 wd_1274 wd_1276 wp_37 pdX12_error rfl rfl rfl rfl (Nat.le_trans (by decide) hd) (Nat.le_of_ble_eq_true rfl) (T_X12_error (Nat.le_refl _) e2) rfl ?_
    exact bd_iret (pc := 15) hq dX12_text_15 rfl
  ·
    refine st_aload_n (pc := 16) dX12_text_16 rfl ?_
    refine st_iconst (pc := 17) (v := (0 : Int32)) dX12_text_17 rfl ?_
    refine bd_puti (pc := 18) hq dX12_text_18 fl_12_211_12 (Or.inl rfl) rfl (fun h2 hq => ?_)
    refine st_aload_n (pc := 21) dX12_text_21 rfl ?_
    refine st_iconst (pc := 22) (v := (0 : Int32)) dX12_text_22 rfl ?_
    refine bd_puti (pc := 23) hq dX12_text_23 fl_12_241_12 (Or.inl rfl) rfl (fun h3 hq => ?_)
    refine st_aload_n (pc := 26) dX12_text_26 rfl ?_
    refine st_iconst (pc := 27) (v := (0 : Int32)) dX12_text_27 rfl ?_
    refine bd_puti (pc := 28) hq dX12_text_28 fl_12_203_12 (Or.inl rfl) rfl (fun h4 hq => ?_)
    refine st_aload_n (pc := 31) dX12_text_31 rfl ?_
    refine st_iconst (pc := 32) (v := (0 : Int32)) dX12_text_32 rfl ?_
    refine bd_puti (pc := 33) hq dX12_text_33 fl_12_226_12 (Or.inl rfl) rfl (fun h5 hq => ?_)
    refine st_aload_n (pc := 36) dX12_text_36 rfl ?_
    refine st_iload_n (pc := 37) dX12_text_37 rfl ?_
    refine bd_puti (pc := 38) hq dX12_text_38 fl_12_220_12 (Or.inl rfl) rfl (fun h6 hq => ?_)
    refine st_aload_n (pc := 41) dX12_text_41 rfl ?_
    refine st_iconst (pc := 42) (v := (0 : Int32)) dX12_text_42 rfl ?_
    refine bd_putb (pc := 43) hq dX12_text_43 fl_12_199_12 (Or.inl rfl) rfl (fun h7 hq => ?_)
    refine st_aload_n (pc := 46) dX12_text_46 rfl ?_
    obtain ⟨⟨hbq8, hkq8⟩, hq⟩ := mh_oi hq
    obtain ⟨q8, e8, hq⟩ := mh_ob hq
    refine st_invV (pc := 47) (ci := 12) (vs := []) (rest := []) (st2 := []) dX12_text_47 okX12_reads (by decide) hkq8 hbq8 wd_1499 wd_1501 wp_65 pdX12_reads rfl rfl rfl rfl (Nat.le_trans (by decide) hd) (Nat.le_of_ble_eq_true rfl) (T_X12_reads (Nat.le_refl _) e8) rfl ?_
    refine st_aload_n (pc := 50) dX12_text_50 rfl ?_
    refine bd_geti (pc := 51) hq dX12_text_51 fl_12_199_12 rfl (fun v9 hq => ?_)
    refine bd_if_ne (pc := 54) (tgt := 75) hq dX12_text_54 (by decide) (fun _ hq => ?_) (fun _ hq => ?_)
    ·
      refine st_aload_n (pc := 57) dX12_text_57 rfl ?_
      refine bd_geti (pc := 58) hq dX12_text_58 fl_12_203_12 rfl (fun v10 hq => ?_)
      refine st_aload_n (pc := 61) dX12_text_61 rfl ?_
      refine bd_getr (pc := 62) hq dX12_text_62 fl_12_9_12 rfl (fun v11 hq => ?_)
      refine st_bipush (pc := 65) (v := (6 : Int32)) dX12_text_65 (by decide) ?_
      refine bd_iald (pc := 67) hq dX12_text_67 (fun v12 hq => ?_)
      refine bd_icmp_ne (pc := 68) (tgt := 75) hq dX12_text_68 (by decide) (fun _ hq => ?_) (fun _ hq => ?_)
      ·
        refine st_iconst (pc := 71) (v := (1 : Int32)) dX12_text_71 rfl ?_
        refine st_goto (pc := 72) (tgt := 76) dX12_text_72 (by decide) ?_
        exact T_X12_text_76 hd hq
      ·
        exact T_X12_text_75 hd hq
    ·
      exact T_X12_text_75 hd hq
-- HoleWaterModel.rain(I)I
theorem dX12_rain_0 : decode cX12_rain 0 = .ok (.aload_n 0, 1) := by decide +kernel
theorem dX12_rain_1 : decode cX12_rain 1 = .ok (.iload_n 1, 1) := by decide +kernel
theorem dX12_rain_2 : decode cX12_rain 2 = .ok (.invokevirtual 83, 3) := by decide +kernel
theorem dX12_rain_5 : decode cX12_rain 5 = .ok (.ifCond .ne 9, 3) := by decide +kernel
theorem dX12_rain_8 : decode cX12_rain 8 = .ok (.aload_n 0, 1) := by decide +kernel
theorem dX12_rain_9 : decode cX12_rain 9 = .ok (.iconst 1, 1) := by decide +kernel
theorem dX12_rain_10 : decode cX12_rain 10 = .ok (.invokevirtual 80, 3) := by decide +kernel
theorem dX12_rain_13 : decode cX12_rain 13 = .ok (.ireturn, 1) := by decide +kernel
theorem dX12_rain_14 : decode cX12_rain 14 = .ok (.aload_n 0, 1) := by decide +kernel
theorem dX12_rain_15 : decode cX12_rain 15 = .ok (.iload_n 1, 1) := by decide +kernel
theorem dX12_rain_16 : decode cX12_rain 16 = .ok (.invokevirtual 96, 3) := by decide +kernel
theorem dX12_rain_19 : decode cX12_rain 19 = .ok (.ifCond .eq 11, 3) := by decide +kernel
theorem dX12_rain_30 : decode cX12_rain 30 = .ok (.aload_n 0, 1) := by decide +kernel
theorem dX12_rain_31 : decode cX12_rain 31 = .ok (.iconst 5, 1) := by decide +kernel
theorem dX12_rain_32 : decode cX12_rain 32 = .ok (.invokevirtual 80, 3) := by decide +kernel
theorem dX12_rain_35 : decode cX12_rain 35 = .ok (.ireturn, 1) := by decide +kernel
theorem dX12_rain_22 : decode cX12_rain 22 = .ok (.aload_n 0, 1) := by decide +kernel
theorem dX12_rain_23 : decode cX12_rain 23 = .ok (.iload_n 1, 1) := by decide +kernel
theorem dX12_rain_24 : decode cX12_rain 24 = .ok (.invokevirtual 146, 3) := by decide +kernel
theorem dX12_rain_27 : decode cX12_rain 27 = .ok (.goto 8, 3) := by decide +kernel
def D_X12_rain (N : Nat) (h : mh_H) (l0 : Nat) (l1 : Int32) : Option (Int32 × mh_H) :=
  kO h 12 l0 <|
  (D_X12_isJoint N h l0 l1).bind fun q1 =>
  if q1.1 = 0 then (kO q1.2 12 l0 <|
  (D_X12_error N q1.2 l0 (1 : Int32)).bind fun q2 =>
  some (q2.1, q2.2))
  else (kO q1.2 12 l0 <|
  (D_X12_isHole N q1.2 l0 l1).bind fun q2 =>
  if q2.1 = 0 then (kO q2.2 12 l0 <|
  (D_X12_error N q2.2 l0 (5 : Int32)).bind fun q3 =>
  some (q3.1, q3.2))
  else (kO q2.2 12 l0 <|
  (D_X12_rainOf N q2.2 l0 l1).bind fun q3 =>
  some (q3.1, q3.2)))
set_option maxHeartbeats 4000000 in
set_option maxRecDepth 100000 in
theorem T_X12_rain {P : mh_E → Prop} {N d : Nat} (hd : 5 ≤ d) {z : (Int32 × mh_H)} {h : mh_H} {l0 : Nat} {l1 : Int32} (hq : D_X12_rain N h l0 l1 = some z) : mh_go P d mX12_rain 0 [some (.ref l0), some (.int l1)] [] h (some (.int z.1)) z.2 := by
  unfold D_X12_rain at hq
  refine st_aload_n (pc := 0) dX12_rain_0 rfl ?_
  refine st_iload_n (pc := 1) dX12_rain_1 rfl ?_
  obtain ⟨⟨hbq1, hkq1⟩, hq⟩ := mh_oi hq
  obtain ⟨q1, e1, hq⟩ := mh_ob hq
  refine st_invV (pc := 2) (ci := 12) (vs := [.int l1]) (rest := []) (st2 := [.int q1.1]) dX12_rain_2 okX12_isJoint (by decide) hkq1 hbq1 wd_1286 wd_1288 wp_38 pdX12_isJoint rfl rfl rfl rfl (Nat.le_trans (by decide) hd) (Nat.le_of_ble_eq_true rfl) (T_X12_isJoint (Nat.le_refl _) e1) rfl ?_
  refine bd_if_ne (pc := 5) (tgt := 14) hq dX12_rain_5 (by decide) (fun _ hq => ?_) (fun _ hq => ?_)
  ·
    refine st_aload_n (pc := 8) dX12_rain_8 rfl ?_
    refine st_iconst (pc := 9) (v := (1 : Int32)) dX12_rain_9 rfl ?_
    obtain ⟨⟨hbq2, hkq2⟩, hq⟩ := mh_oi hq
    obtain ⟨q2, e2, hq⟩ := mh_ob hq
    refine st_invV (pc := 10) (ci := 12) (vs := [.int (1 : Int32)]) (rest := []) (st2 := [.int q2.1]) dX12_rain_10 okX12_error (by decide) hkq2 hbq2 wd_1274 wd_1276 wp_37 pdX12_error rfl rfl rfl rfl (Nat.le_trans (by decide) hd) (Nat.le_of_ble_eq_true rfl) (T_X12_error (Nat.le_refl _) e2) rfl ?_
    exact bd_iret (pc := 13) hq dX12_rain_13 rfl
  ·
    refine st_aload_n (pc := 14) dX12_rain_14 rfl ?_
    refine st_iload_n (pc := 15) dX12_rain_15 rfl ?_
    obtain ⟨⟨hbq2, hkq2⟩, hq⟩ := mh_oi hq
    obtain ⟨q2, e2, hq⟩ := mh_ob hq
    refine st_invV (pc := 16) (ci := 12) (vs := [.int l1]) (rest := []) (st2 := [.int q2.1]) dX12_rain_16 okX12_isHole (by decide) hkq2 hbq2 wd_1305 wd_1307 wp_41 pdX12_isHole rfl rfl rfl rfl (Nat.le_trans (by decide) hd) (Nat.le_of_ble_eq_true rfl) (T_X12_isHole (Nat.le_refl _) e2) rfl ?_
    refine bd_if_eq (pc := 19) (tgt := 30) hq dX12_rain_19 (by decide) (fun _ hq => ?_) (fun _ hq => ?_)
    ·
      refine st_aload_n (pc := 30) dX12_rain_30 rfl ?_
      refine st_iconst (pc := 31) (v := (5 : Int32)) dX12_rain_31 rfl ?_
      obtain ⟨⟨hbq3, hkq3⟩, hq⟩ := mh_oi hq
      obtain ⟨q3, e3, hq⟩ := mh_ob hq
      refine st_invV (pc := 32) (ci := 12) (vs := [.int (5 : Int32)]) (rest := []) (st2 := [.int q3.1]) dX12_rain_32 okX12_error (by decide) hkq3 hbq3 wd_1274 wd_1276 wp_37 pdX12_error rfl rfl rfl rfl (Nat.le_trans (by decide) hd) (Nat.le_of_ble_eq_true rfl) (T_X12_error (Nat.le_refl _) e3) rfl ?_
      exact bd_iret (pc := 35) hq dX12_rain_35 rfl
    ·
      refine st_aload_n (pc := 22) dX12_rain_22 rfl ?_
      refine st_iload_n (pc := 23) dX12_rain_23 rfl ?_
      obtain ⟨⟨hbq3, hkq3⟩, hq⟩ := mh_oi hq
      obtain ⟨q3, e3, hq⟩ := mh_ob hq
      refine st_invV (pc := 24) (ci := 12) (vs := [.int l1]) (rest := []) (st2 := [.int q3.1]) dX12_rain_24 okX12_rainOf (by decide) hkq3 hbq3 wd_1377 wd_1379 wp_48 pdX12_rainOf rfl rfl rfl rfl (Nat.le_trans (by decide) hd) (Nat.le_of_ble_eq_true rfl) (T_X12_rainOf (Nat.le_refl _) e3) rfl ?_
      refine st_goto (pc := 27) (tgt := 35) dX12_rain_27 (by decide) ?_
      exact bd_iret (pc := 35) hq dX12_rain_35 rfl
-- HoleWaterModel.seenOf(III)I
theorem dX12_seenOf_0 : decode cX12_seenOf 0 = .ok (.aload_n 0, 1) := by decide +kernel
theorem dX12_seenOf_1 : decode cX12_seenOf 1 = .ok (.getfield 9, 3) := by decide +kernel
theorem dX12_seenOf_4 : decode cX12_seenOf 4 = .ok (.sipush 7633, 3) := by decide +kernel
theorem dX12_seenOf_7 : decode cX12_seenOf 7 = .ok (.iaload, 1) := by decide +kernel
theorem dX12_seenOf_8 : decode cX12_seenOf 8 = .ok (.ifCond .ne 5, 3) := by decide +kernel
theorem dX12_seenOf_11 : decode cX12_seenOf 11 = .ok (.iconst 5, 1) := by decide +kernel
theorem dX12_seenOf_12 : decode cX12_seenOf 12 = .ok (.ireturn, 1) := by decide +kernel
theorem dX12_seenOf_13 : decode cX12_seenOf 13 = .ok (.aload_n 0, 1) := by decide +kernel
theorem dX12_seenOf_14 : decode cX12_seenOf 14 = .ok (.getfield 34, 3) := by decide +kernel
theorem dX12_seenOf_17 : decode cX12_seenOf 17 = .ok (.iconst 0, 1) := by decide +kernel
theorem dX12_seenOf_18 : decode cX12_seenOf 18 = .ok (.aload_n 0, 1) := by decide +kernel
theorem dX12_seenOf_19 : decode cX12_seenOf 19 = .ok (.getfield 9, 3) := by decide +kernel
theorem dX12_seenOf_22 : decode cX12_seenOf 22 = .ok (.iload_n 1, 1) := by decide +kernel
theorem dX12_seenOf_23 : decode cX12_seenOf 23 = .ok (.invokestatic 71, 3) := by decide +kernel
theorem dX12_seenOf_26 : decode cX12_seenOf 26 = .ok (.iconst 4, 1) := by decide +kernel
theorem dX12_seenOf_27 : decode cX12_seenOf 27 = .ok (.iadd, 1) := by decide +kernel
theorem dX12_seenOf_28 : decode cX12_seenOf 28 = .ok (.iaload, 1) := by decide +kernel
theorem dX12_seenOf_29 : decode cX12_seenOf 29 = .ok (.iastore, 1) := by decide +kernel
theorem dX12_seenOf_30 : decode cX12_seenOf 30 = .ok (.aload_n 0, 1) := by decide +kernel
theorem dX12_seenOf_31 : decode cX12_seenOf 31 = .ok (.getfield 34, 3) := by decide +kernel
theorem dX12_seenOf_34 : decode cX12_seenOf 34 = .ok (.iconst 1, 1) := by decide +kernel
theorem dX12_seenOf_35 : decode cX12_seenOf 35 = .ok (.iload_n 2, 1) := by decide +kernel
theorem dX12_seenOf_36 : decode cX12_seenOf 36 = .ok (.iastore, 1) := by decide +kernel
theorem dX12_seenOf_37 : decode cX12_seenOf 37 = .ok (.aload_n 0, 1) := by decide +kernel
theorem dX12_seenOf_38 : decode cX12_seenOf 38 = .ok (.getfield 34, 3) := by decide +kernel
theorem dX12_seenOf_41 : decode cX12_seenOf 41 = .ok (.iconst 2, 1) := by decide +kernel
theorem dX12_seenOf_42 : decode cX12_seenOf 42 = .ok (.iload_n 3, 1) := by decide +kernel
theorem dX12_seenOf_43 : decode cX12_seenOf 43 = .ok (.iastore, 1) := by decide +kernel
theorem dX12_seenOf_44 : decode cX12_seenOf 44 = .ok (.aload_n 0, 1) := by decide +kernel
theorem dX12_seenOf_45 : decode cX12_seenOf 45 = .ok (.iconst 1, 1) := by decide +kernel
theorem dX12_seenOf_46 : decode cX12_seenOf 46 = .ok (.invokevirtual 256, 3) := by decide +kernel
theorem dX12_seenOf_49 : decode cX12_seenOf 49 = .ok (.iconst 1, 1) := by decide +kernel
theorem dX12_seenOf_50 : decode cX12_seenOf 50 = .ok (.sipush 9999, 3) := by decide +kernel
theorem dX12_seenOf_53 : decode cX12_seenOf 53 = .ok (.invokestatic 259, 3) := by decide +kernel
theorem dX12_seenOf_56 : decode cX12_seenOf 56 = .ok (.ireturn, 1) := by decide +kernel
def D_X12_seenOf (N : Nat) (h : mh_H) (l0 : Nat) (l1 : Int32) (l2 : Int32) (l3 : Int32) : Option (Int32 × mh_H) :=
  (gR h 12 l0 0).bind fun v1 =>
  (aI h v1 (7633 : Int32)).bind fun v2 =>
  if v2 = 0 then (some ((5 : Int32), h))
  else ((gR h 12 l0 15).bind fun v3 =>
  (gR h 12 l0 0).bind fun v4 =>
  (D_X12_joint N h l1).bind fun q5 =>
  (aI q5.2 v4 (q5.1 + (4 : Int32))).bind fun v6 =>
  (uI q5.2 v3 (0 : Int32) v6).bind fun h7 =>
  (gR h7 12 l0 15).bind fun v8 =>
  (uI h7 v8 (1 : Int32) l2).bind fun h9 =>
  (gR h9 12 l0 15).bind fun v10 =>
  (uI h9 v10 (2 : Int32) l3).bind fun h11 =>
  kO h11 12 l0 <|
  (D_X12_says N h11 l0 (1 : Int32)).bind fun q12 =>
  (D_X12_within N q12.2 q12.1 (1 : Int32) (9999 : Int32)).bind fun q13 =>
  some (q13.1, q13.2))
set_option maxHeartbeats 4000000 in
set_option maxRecDepth 100000 in
theorem T_X12_seenOf {P : mh_E → Prop} {N d : Nat} (hd : 4 ≤ d) {z : (Int32 × mh_H)} {h : mh_H} {l0 : Nat} {l1 : Int32} {l2 : Int32} {l3 : Int32} (hq : D_X12_seenOf N h l0 l1 l2 l3 = some z) : mh_go P d mX12_seenOf 0 [some (.ref l0), some (.int l1), some (.int l2), some (.int l3)] [] h (some (.int z.1)) z.2 := by
  unfold D_X12_seenOf at hq
  refine st_aload_n (pc := 0) dX12_seenOf_0 rfl ?_
  refine bd_getr (pc := 1) hq dX12_seenOf_1 fl_12_9_12 rfl (fun v1 hq => ?_)
  refine st_sipush (pc := 4) (v := (7633 : Int32)) dX12_seenOf_4 (by decide) ?_
  refine bd_iald (pc := 7) hq dX12_seenOf_7 (fun v2 hq => ?_)
  refine bd_if_ne (pc := 8) (tgt := 13) hq dX12_seenOf_8 (by decide) (fun _ hq => ?_) (fun _ hq => ?_)
  ·
    refine st_iconst (pc := 11) (v := (5 : Int32)) dX12_seenOf_11 rfl ?_
    exact bd_iret (pc := 12) hq dX12_seenOf_12 rfl
  ·
    refine st_aload_n (pc := 13) dX12_seenOf_13 rfl ?_
    refine bd_getr (pc := 14) hq dX12_seenOf_14 fl_12_34_12 rfl (fun v3 hq => ?_)
    refine st_iconst (pc := 17) (v := (0 : Int32)) dX12_seenOf_17 rfl ?_
    refine st_aload_n (pc := 18) dX12_seenOf_18 rfl ?_
    refine bd_getr (pc := 19) hq dX12_seenOf_19 fl_12_9_12 rfl (fun v4 hq => ?_)
    refine st_iload_n (pc := 22) dX12_seenOf_22 rfl ?_
    obtain ⟨q5, e5, hq⟩ := mh_ob hq
    refine st_invS (pc := 23) (Y := mX12_joint) (vs := [.int l1]) (rest := [.ref v4, .int (0 : Int32), .ref v3]) (st2 := [.int q5.1, .ref v4, .int (0 : Int32), .ref v3]) dX12_seenOf_23 okX12_joint wd_1279 wd_1280 pdX12_joint rfl rfl rfl rfl (Nat.le_trans (by decide) hd) (Nat.le_of_ble_eq_true rfl) (T_X12_joint (Nat.le_refl _) e5) rfl ?_
    refine st_iconst (pc := 26) (v := (4 : Int32)) dX12_seenOf_26 rfl ?_
    refine st_iadd (pc := 27) dX12_seenOf_27 ?_
    refine bd_iald (pc := 28) hq dX12_seenOf_28 (fun v6 hq => ?_)
    refine bd_iast (pc := 29) hq dX12_seenOf_29 (fun h7 hq => ?_)
    refine st_aload_n (pc := 30) dX12_seenOf_30 rfl ?_
    refine bd_getr (pc := 31) hq dX12_seenOf_31 fl_12_34_12 rfl (fun v8 hq => ?_)
    refine st_iconst (pc := 34) (v := (1 : Int32)) dX12_seenOf_34 rfl ?_
    refine st_iload_n (pc := 35) dX12_seenOf_35 rfl ?_
    refine bd_iast (pc := 36) hq dX12_seenOf_36 (fun h9 hq => ?_)
    refine st_aload_n (pc := 37) dX12_seenOf_37 rfl ?_
    refine bd_getr (pc := 38) hq dX12_seenOf_38 fl_12_34_12 rfl (fun v10 hq => ?_)
    refine st_iconst (pc := 41) (v := (2 : Int32)) dX12_seenOf_41 rfl ?_
    refine st_iload_n (pc := 42) dX12_seenOf_42 rfl ?_
    refine bd_iast (pc := 43) hq dX12_seenOf_43 (fun h11 hq => ?_)
    refine st_aload_n (pc := 44) dX12_seenOf_44 rfl ?_
    refine st_iconst (pc := 45) (v := (1 : Int32)) dX12_seenOf_45 rfl ?_
    obtain ⟨⟨hbq12, hkq12⟩, hq⟩ := mh_oi hq
    obtain ⟨q12, e12, hq⟩ := mh_ob hq
    refine st_invV (pc := 46) (ci := 12) (vs := [.int (1 : Int32)]) (rest := []) (st2 := [.int q12.1]) dX12_seenOf_46 okX12_says (by decide) hkq12 hbq12 wd_1381 wd_1383 wp_49 pdX12_says rfl rfl rfl rfl (Nat.le_trans (by decide) hd) (Nat.le_of_ble_eq_true rfl) (T_X12_says (Nat.le_refl _) e12) rfl ?_
    refine st_iconst (pc := 49) (v := (1 : Int32)) dX12_seenOf_49 rfl ?_
    refine st_sipush (pc := 50) (v := (9999 : Int32)) dX12_seenOf_50 (by decide) ?_
    obtain ⟨q13, e13, hq⟩ := mh_ob hq
    refine st_invS (pc := 53) (Y := mX12_within) (vs := [.int q12.1, .int (1 : Int32), .int (9999 : Int32)]) (rest := []) (st2 := [.int q13.1]) dX12_seenOf_53 okX12_within wd_1392 wd_1393 pdX12_within rfl rfl rfl rfl (Nat.le_trans (by decide) hd) (Nat.le_of_ble_eq_true rfl) (T_X12_within (Nat.le_refl _) e13) rfl ?_
    exact bd_iret (pc := 56) hq dX12_seenOf_56 rfl
-- HoleWaterModel.seen(III)I
theorem dX12_seen_25 : decode cX12_seen 25 = .ok (.aload_n 0, 1) := by decide +kernel
theorem dX12_seen_26 : decode cX12_seen 26 = .ok (.iconst 1, 1) := by decide +kernel
theorem dX12_seen_27 : decode cX12_seen 27 = .ok (.invokevirtual 80, 3) := by decide +kernel
theorem dX12_seen_30 : decode cX12_seen 30 = .ok (.ireturn, 1) := by decide +kernel
theorem dX12_seen_0 : decode cX12_seen 0 = .ok (.aload_n 0, 1) := by decide +kernel
theorem dX12_seen_1 : decode cX12_seen 1 = .ok (.iload_n 1, 1) := by decide +kernel
theorem dX12_seen_2 : decode cX12_seen 2 = .ok (.invokevirtual 83, 3) := by decide +kernel
theorem dX12_seen_5 : decode cX12_seen 5 = .ok (.ifCond .eq 20, 3) := by decide +kernel
theorem dX12_seen_8 : decode cX12_seen 8 = .ok (.iload_n 2, 1) := by decide +kernel
theorem dX12_seen_9 : decode cX12_seen 9 = .ok (.invokestatic 155, 3) := by decide +kernel
theorem dX12_seen_12 : decode cX12_seen 12 = .ok (.ifCond .eq 13, 3) := by decide +kernel
theorem dX12_seen_15 : decode cX12_seen 15 = .ok (.iload_n 3, 1) := by decide +kernel
theorem dX12_seen_16 : decode cX12_seen 16 = .ok (.i2l, 1) := by decide +kernel
theorem dX12_seen_17 : decode cX12_seen 17 = .ok (.lconst 0, 1) := by decide +kernel
theorem dX12_seen_18 : decode cX12_seen 18 = .ok (.lconst 1, 1) := by decide +kernel
theorem dX12_seen_19 : decode cX12_seen 19 = .ok (.invokestatic 65, 3) := by decide +kernel
theorem dX12_seen_22 : decode cX12_seen 22 = .ok (.ifCond .ne 9, 3) := by decide +kernel
theorem dX12_seen_31 : decode cX12_seen 31 = .ok (.aload_n 0, 1) := by decide +kernel
theorem dX12_seen_32 : decode cX12_seen 32 = .ok (.iload_n 1, 1) := by decide +kernel
theorem dX12_seen_33 : decode cX12_seen 33 = .ok (.invokevirtual 126, 3) := by decide +kernel
theorem dX12_seen_36 : decode cX12_seen 36 = .ok (.ifCond .eq 13, 3) := by decide +kernel
theorem dX12_seen_49 : decode cX12_seen 49 = .ok (.aload_n 0, 1) := by decide +kernel
theorem dX12_seen_50 : decode cX12_seen 50 = .ok (.iconst 5, 1) := by decide +kernel
theorem dX12_seen_51 : decode cX12_seen 51 = .ok (.invokevirtual 80, 3) := by decide +kernel
theorem dX12_seen_54 : decode cX12_seen 54 = .ok (.ireturn, 1) := by decide +kernel
theorem dX12_seen_39 : decode cX12_seen 39 = .ok (.aload_n 0, 1) := by decide +kernel
theorem dX12_seen_40 : decode cX12_seen 40 = .ok (.iload_n 1, 1) := by decide +kernel
theorem dX12_seen_41 : decode cX12_seen 41 = .ok (.iload_n 2, 1) := by decide +kernel
theorem dX12_seen_42 : decode cX12_seen 42 = .ok (.iload_n 3, 1) := by decide +kernel
theorem dX12_seen_43 : decode cX12_seen 43 = .ok (.invokevirtual 262, 3) := by decide +kernel
theorem dX12_seen_46 : decode cX12_seen 46 = .ok (.goto 8, 3) := by decide +kernel
def D_X12_seen_25 (N : Nat) (h : mh_H) (l0 : Nat) : Option (Int32 × mh_H) :=
  kO h 12 l0 <|
  (D_X12_error N h l0 (1 : Int32)).bind fun q1 =>
  some (q1.1, q1.2)
set_option maxHeartbeats 4000000 in
set_option maxRecDepth 100000 in
theorem T_X12_seen_25 {P : mh_E → Prop} {N d : Nat} (hd : 5 ≤ d) {z : (Int32 × mh_H)} {h : mh_H} {l0 : Nat} (hq : D_X12_seen_25 N h l0 = some z) : mh_go P d mX12_seen 25 [some (.ref l0), none, none, none] [] h (some (.int z.1)) z.2 := by
  unfold D_X12_seen_25 at hq
  refine st_aload_n (pc := 25) dX12_seen_25 rfl ?_
  refine st_iconst (pc := 26) (v := (1 : Int32)) dX12_seen_26 rfl ?_
  obtain ⟨⟨hbq1, hkq1⟩, hq⟩ := mh_oi hq
  obtain ⟨q1, e1, hq⟩ := mh_ob hq
  refine st_invV (pc := 27) (ci := 12) (vs := [.int (1 : Int32)]) (rest := []) (st2 := [.int q1.1]) dX12_seen_27 okX12_error (by decide) hkq1 hbq1 wd_1274 wd_1276 wp_37 pdX12_error rfl rfl rfl rfl (Nat.le_trans (by decide) hd) (Nat.le_of_ble_eq_true rfl) (T_X12_error (Nat.le_refl _) e1) rfl ?_
  exact bd_iret (pc := 30) hq dX12_seen_30 rfl
def D_X12_seen (N : Nat) (h : mh_H) (l0 : Nat) (l1 : Int32) (l2 : Int32) (l3 : Int32) : Option (Int32 × mh_H) :=
  kO h 12 l0 <|
  (D_X12_isJoint N h l0 l1).bind fun q1 =>
  if q1.1 = 0 then (D_X12_seen_25 N q1.2 l0)
  else ((D_X12_isColour N q1.2 l2).bind fun q2 =>
  if q2.1 = 0 then (D_X12_seen_25 N q2.2 l0)
  else ((D_X12_in N q2.2 l3.toInt64 (0 : Int64) (1 : Int64)).bind fun q3 =>
  if q3.1 = 0 then (D_X12_seen_25 N q3.2 l0)
  else (kO q3.2 12 l0 <|
  (D_X12_isSpring N q3.2 l0 l1).bind fun q4 =>
  if q4.1 = 0 then (kO q4.2 12 l0 <|
  (D_X12_error N q4.2 l0 (5 : Int32)).bind fun q5 =>
  some (q5.1, q5.2))
  else (kO q4.2 12 l0 <|
  (D_X12_seenOf N q4.2 l0 l1 l2 l3).bind fun q5 =>
  some (q5.1, q5.2)))))
set_option maxHeartbeats 4000000 in
set_option maxRecDepth 100000 in
theorem T_X12_seen {P : mh_E → Prop} {N d : Nat} (hd : 5 ≤ d) {z : (Int32 × mh_H)} {h : mh_H} {l0 : Nat} {l1 : Int32} {l2 : Int32} {l3 : Int32} (hq : D_X12_seen N h l0 l1 l2 l3 = some z) : mh_go P d mX12_seen 0 [some (.ref l0), some (.int l1), some (.int l2), some (.int l3)] [] h (some (.int z.1)) z.2 := by
  unfold D_X12_seen at hq
  refine st_aload_n (pc := 0) dX12_seen_0 rfl ?_
  refine st_iload_n (pc := 1) dX12_seen_1 rfl ?_
  obtain ⟨⟨hbq1, hkq1⟩, hq⟩ := mh_oi hq
  obtain ⟨q1, e1, hq⟩ := mh_ob hq
  refine st_invV (pc := 2) (ci := 12) (vs := [.int l1]) (rest := []) (st2 := [.int q1.1]) dX12_seen_2 okX12_isJoint (by decide) hkq1 hbq1 wd_1286 wd_1288 wp_38 pdX12_isJoint rfl rfl rfl rfl (Nat.le_trans (by decide) hd) (Nat.le_of_ble_eq_true rfl) (T_X12_isJoint (Nat.le_refl _) e1) rfl ?_
  refine bd_if_eq (pc := 5) (tgt := 25) hq dX12_seen_5 (by decide) (fun _ hq => ?_) (fun _ hq => ?_)
  ·
    refine st_lesS (lv' := [some (.ref l0), none, none, none]) ⟨Or.inr rfl, Or.inl rfl, Or.inl rfl, Or.inl rfl, trivial⟩ ?_
    exact T_X12_seen_25 hd hq
  ·
    refine st_iload_n (pc := 8) dX12_seen_8 rfl ?_
    obtain ⟨q2, e2, hq⟩ := mh_ob hq
    refine st_invS (pc := 9) (Y := mX12_isColour) (vs := [.int l2]) (rest := []) (st2 := [.int q2.1]) dX12_seen_9 okX12_isColour wd_1358 wd_1359 pdX12_isColour rfl rfl rfl rfl (Nat.le_trans (by decide) hd) (Nat.le_of_ble_eq_true rfl) (T_X12_isColour (Nat.le_refl _) e2) rfl ?_
    refine bd_if_eq (pc := 12) (tgt := 25) hq dX12_seen_12 (by decide) (fun _ hq => ?_) (fun _ hq => ?_)
    ·
      refine st_lesS (lv' := [some (.ref l0), none, none, none]) ⟨Or.inr rfl, Or.inl rfl, Or.inl rfl, Or.inl rfl, trivial⟩ ?_
      exact T_X12_seen_25 hd hq
    ·
      refine st_iload_n (pc := 15) dX12_seen_15 rfl ?_
      refine st_i2l (pc := 16) dX12_seen_16 ?_
      refine st_lconst (pc := 17) (v := 0) dX12_seen_17 rfl ?_
      refine st_lconst (pc := 18) (v := 1) dX12_seen_18 rfl ?_
      obtain ⟨q3, e3, hq⟩ := mh_ob hq
      refine st_invS (pc := 19) (Y := mX12_in) (vs := [.long l3.toInt64, .long (0 : Int64), .long (1 : Int64)]) (rest := []) (st2 := [.int q3.1]) dX12_seen_19 okX12_in wd_1270 wd_1271 pdX12_in rfl rfl rfl rfl (Nat.le_trans (by decide) hd) (Nat.le_of_ble_eq_true rfl) (T_X12_in (Nat.le_refl _) e3) rfl ?_
      refine bd_if_ne (pc := 22) (tgt := 31) hq dX12_seen_22 (by decide) (fun _ hq => ?_) (fun _ hq => ?_)
      ·
        refine st_lesS (lv' := [some (.ref l0), none, none, none]) ⟨Or.inr rfl, Or.inl rfl, Or.inl rfl, Or.inl rfl, trivial⟩ ?_
        exact T_X12_seen_25 hd hq
      ·
        refine st_aload_n (pc := 31) dX12_seen_31 rfl ?_
        refine st_iload_n (pc := 32) dX12_seen_32 rfl ?_
        obtain ⟨⟨hbq4, hkq4⟩, hq⟩ := mh_oi hq
        obtain ⟨q4, e4, hq⟩ := mh_ob hq
        refine st_invV (pc := 33) (ci := 12) (vs := [.int l1]) (rest := []) (st2 := [.int q4.1]) dX12_seen_33 okX12_isSpring (by decide) hkq4 hbq4 wd_1399 wd_1401 wp_52 pdX12_isSpring rfl rfl rfl rfl (Nat.le_trans (by decide) hd) (Nat.le_of_ble_eq_true rfl) (T_X12_isSpring (Nat.le_refl _) e4) rfl ?_
        refine bd_if_eq (pc := 36) (tgt := 49) hq dX12_seen_36 (by decide) (fun _ hq => ?_) (fun _ hq => ?_)
        ·
          refine st_aload_n (pc := 49) dX12_seen_49 rfl ?_
          refine st_iconst (pc := 50) (v := (5 : Int32)) dX12_seen_50 rfl ?_
          obtain ⟨⟨hbq5, hkq5⟩, hq⟩ := mh_oi hq
          obtain ⟨q5, e5, hq⟩ := mh_ob hq
          refine st_invV (pc := 51) (ci := 12) (vs := [.int (5 : Int32)]) (rest := []) (st2 := [.int q5.1]) dX12_seen_51 okX12_error (by decide) hkq5 hbq5 wd_1274 wd_1276 wp_37 pdX12_error rfl rfl rfl rfl (Nat.le_trans (by decide) hd) (Nat.le_of_ble_eq_true rfl) (T_X12_error (Nat.le_refl _) e5) rfl ?_
          exact bd_iret (pc := 54) hq dX12_seen_54 rfl
        ·
          refine st_aload_n (pc := 39) dX12_seen_39 rfl ?_
          refine st_iload_n (pc := 40) dX12_seen_40 rfl ?_
          refine st_iload_n (pc := 41) dX12_seen_41 rfl ?_
          refine st_iload_n (pc := 42) dX12_seen_42 rfl ?_
          obtain ⟨⟨hbq5, hkq5⟩, hq⟩ := mh_oi hq
          obtain ⟨q5, e5, hq⟩ := mh_ob hq
          refine st_invV (pc := 43) (ci := 12) (vs := [.int l1, .int l2, .int l3]) (rest := []) (st2 := [.int q5.1]) dX12_seen_43 okX12_seenOf (by decide) hkq5 hbq5 wd_1544 wd_1546 wp_73 pdX12_seenOf rfl rfl rfl rfl (Nat.le_trans (by decide) hd) (Nat.le_of_ble_eq_true rfl) (T_X12_seenOf (Nat.le_refl _) e5) rfl ?_
          refine st_goto (pc := 46) (tgt := 54) dX12_seen_46 (by decide) ?_
          exact bd_iret (pc := 54) hq dX12_seen_54 rfl
-- HoleWaterModel.looks(IIII)Z
theorem dX12_looks_103 : decode cX12_looks 103 = .ok (.iastore, 1) := by decide +kernel
theorem dX12_looks_104 : decode cX12_looks 104 = .ok (.aload_n 0, 1) := by decide +kernel
theorem dX12_looks_105 : decode cX12_looks 105 = .ok (.getfield 9, 3) := by decide +kernel
theorem dX12_looks_108 : decode cX12_looks 108 = .ok (.iload 5, 2) := by decide +kernel
theorem dX12_looks_110 : decode cX12_looks 110 = .ok (.iconst 5, 1) := by decide +kernel
theorem dX12_looks_111 : decode cX12_looks 111 = .ok (.iadd, 1) := by decide +kernel
theorem dX12_looks_112 : decode cX12_looks 112 = .ok (.aload_n 0, 1) := by decide +kernel
theorem dX12_looks_113 : decode cX12_looks 113 = .ok (.getfield 9, 3) := by decide +kernel
theorem dX12_looks_116 : decode cX12_looks 116 = .ok (.iconst 5, 1) := by decide +kernel
theorem dX12_looks_117 : decode cX12_looks 117 = .ok (.iaload, 1) := by decide +kernel
theorem dX12_looks_118 : decode cX12_looks 118 = .ok (.iastore, 1) := by decide +kernel
theorem dX12_looks_119 : decode cX12_looks 119 = .ok (.aload_n 0, 1) := by decide +kernel
theorem dX12_looks_120 : decode cX12_looks 120 = .ok (.getfield 9, 3) := by decide +kernel
theorem dX12_looks_123 : decode cX12_looks 123 = .ok (.iload 5, 2) := by decide +kernel
theorem dX12_looks_125 : decode cX12_looks 125 = .ok (.bipush 6, 2) := by decide +kernel
theorem dX12_looks_127 : decode cX12_looks 127 = .ok (.iadd, 1) := by decide +kernel
theorem dX12_looks_128 : decode cX12_looks 128 = .ok (.aload_n 0, 1) := by decide +kernel
theorem dX12_looks_129 : decode cX12_looks 129 = .ok (.getfield 9, 3) := by decide +kernel
theorem dX12_looks_132 : decode cX12_looks 132 = .ok (.iconst 3, 1) := by decide +kernel
theorem dX12_looks_133 : decode cX12_looks 133 = .ok (.iaload, 1) := by decide +kernel
theorem dX12_looks_134 : decode cX12_looks 134 = .ok (.iastore, 1) := by decide +kernel
theorem dX12_looks_135 : decode cX12_looks 135 = .ok (.aload_n 0, 1) := by decide +kernel
theorem dX12_looks_136 : decode cX12_looks 136 = .ok (.getfield 9, 3) := by decide +kernel
theorem dX12_looks_139 : decode cX12_looks 139 = .ok (.iload 5, 2) := by decide +kernel
theorem dX12_looks_141 : decode cX12_looks 141 = .ok (.bipush 7, 2) := by decide +kernel
theorem dX12_looks_143 : decode cX12_looks 143 = .ok (.iadd, 1) := by decide +kernel
theorem dX12_looks_144 : decode cX12_looks 144 = .ok (.iload 4, 2) := by decide +kernel
theorem dX12_looks_146 : decode cX12_looks 146 = .ok (.iastore, 1) := by decide +kernel
theorem dX12_looks_147 : decode cX12_looks 147 = .ok (.aload_n 0, 1) := by decide +kernel
theorem dX12_looks_148 : decode cX12_looks 148 = .ok (.getfield 9, 3) := by decide +kernel
theorem dX12_looks_151 : decode cX12_looks 151 = .ok (.iconst 4, 1) := by decide +kernel
theorem dX12_looks_152 : decode cX12_looks 152 = .ok (.dup2, 1) := by decide +kernel
theorem dX12_looks_153 : decode cX12_looks 153 = .ok (.iaload, 1) := by decide +kernel
theorem dX12_looks_154 : decode cX12_looks 154 = .ok (.iconst 1, 1) := by decide +kernel
theorem dX12_looks_155 : decode cX12_looks 155 = .ok (.iadd, 1) := by decide +kernel
theorem dX12_looks_156 : decode cX12_looks 156 = .ok (.iastore, 1) := by decide +kernel
theorem dX12_looks_157 : decode cX12_looks 157 = .ok (.iload 6, 2) := by decide +kernel
theorem dX12_looks_159 : decode cX12_looks 159 = .ok (.ireturn, 1) := by decide +kernel
theorem dX12_looks_40 : decode cX12_looks 40 = .ok (.istore 6, 2) := by decide +kernel
theorem dX12_looks_42 : decode cX12_looks 42 = .ok (.aload_n 0, 1) := by decide +kernel
theorem dX12_looks_43 : decode cX12_looks 43 = .ok (.getfield 9, 3) := by decide +kernel
theorem dX12_looks_46 : decode cX12_looks 46 = .ok (.iload 5, 2) := by decide +kernel
theorem dX12_looks_48 : decode cX12_looks 48 = .ok (.iload_n 1, 1) := by decide +kernel
theorem dX12_looks_49 : decode cX12_looks 49 = .ok (.iastore, 1) := by decide +kernel
theorem dX12_looks_50 : decode cX12_looks 50 = .ok (.aload_n 0, 1) := by decide +kernel
theorem dX12_looks_51 : decode cX12_looks 51 = .ok (.getfield 9, 3) := by decide +kernel
theorem dX12_looks_54 : decode cX12_looks 54 = .ok (.iload 5, 2) := by decide +kernel
theorem dX12_looks_56 : decode cX12_looks 56 = .ok (.iconst 1, 1) := by decide +kernel
theorem dX12_looks_57 : decode cX12_looks 57 = .ok (.iadd, 1) := by decide +kernel
theorem dX12_looks_58 : decode cX12_looks 58 = .ok (.iload_n 2, 1) := by decide +kernel
theorem dX12_looks_59 : decode cX12_looks 59 = .ok (.iastore, 1) := by decide +kernel
theorem dX12_looks_60 : decode cX12_looks 60 = .ok (.aload_n 0, 1) := by decide +kernel
theorem dX12_looks_61 : decode cX12_looks 61 = .ok (.getfield 9, 3) := by decide +kernel
theorem dX12_looks_64 : decode cX12_looks 64 = .ok (.iload 5, 2) := by decide +kernel
theorem dX12_looks_66 : decode cX12_looks 66 = .ok (.iconst 2, 1) := by decide +kernel
theorem dX12_looks_67 : decode cX12_looks 67 = .ok (.iadd, 1) := by decide +kernel
theorem dX12_looks_68 : decode cX12_looks 68 = .ok (.aload_n 0, 1) := by decide +kernel
theorem dX12_looks_69 : decode cX12_looks 69 = .ok (.getfield 9, 3) := by decide +kernel
theorem dX12_looks_72 : decode cX12_looks 72 = .ok (.iconst 0, 1) := by decide +kernel
theorem dX12_looks_73 : decode cX12_looks 73 = .ok (.iaload, 1) := by decide +kernel
theorem dX12_looks_74 : decode cX12_looks 74 = .ok (.iastore, 1) := by decide +kernel
theorem dX12_looks_75 : decode cX12_looks 75 = .ok (.aload_n 0, 1) := by decide +kernel
theorem dX12_looks_76 : decode cX12_looks 76 = .ok (.getfield 9, 3) := by decide +kernel
theorem dX12_looks_79 : decode cX12_looks 79 = .ok (.iload 5, 2) := by decide +kernel
theorem dX12_looks_81 : decode cX12_looks 81 = .ok (.iconst 3, 1) := by decide +kernel
theorem dX12_looks_82 : decode cX12_looks 82 = .ok (.iadd, 1) := by decide +kernel
theorem dX12_looks_83 : decode cX12_looks 83 = .ok (.iload_n 3, 1) := by decide +kernel
theorem dX12_looks_84 : decode cX12_looks 84 = .ok (.iastore, 1) := by decide +kernel
theorem dX12_looks_85 : decode cX12_looks 85 = .ok (.aload_n 0, 1) := by decide +kernel
theorem dX12_looks_86 : decode cX12_looks 86 = .ok (.getfield 9, 3) := by decide +kernel
theorem dX12_looks_89 : decode cX12_looks 89 = .ok (.iload 5, 2) := by decide +kernel
theorem dX12_looks_91 : decode cX12_looks 91 = .ok (.iconst 4, 1) := by decide +kernel
theorem dX12_looks_92 : decode cX12_looks 92 = .ok (.iadd, 1) := by decide +kernel
theorem dX12_looks_93 : decode cX12_looks 93 = .ok (.iload 6, 2) := by decide +kernel
theorem dX12_looks_95 : decode cX12_looks 95 = .ok (.ifCond .eq 7, 3) := by decide +kernel
theorem dX12_looks_102 : decode cX12_looks 102 = .ok (.iconst 0, 1) := by decide +kernel
theorem dX12_looks_98 : decode cX12_looks 98 = .ok (.iconst 1, 1) := by decide +kernel
theorem dX12_looks_99 : decode cX12_looks 99 = .ok (.goto 4, 3) := by decide +kernel
theorem dX12_looks_29 : decode cX12_looks 29 = .ok (.invokevirtual 262, 3) := by decide +kernel
theorem dX12_looks_32 : decode cX12_looks 32 = .ok (.if_icmp .lt 7, 3) := by decide +kernel
theorem dX12_looks_39 : decode cX12_looks 39 = .ok (.iconst 0, 1) := by decide +kernel
theorem dX12_looks_35 : decode cX12_looks 35 = .ok (.iconst 1, 1) := by decide +kernel
theorem dX12_looks_36 : decode cX12_looks 36 = .ok (.goto 4, 3) := by decide +kernel
theorem dX12_looks_0 : decode cX12_looks 0 = .ok (.sipush 7076, 3) := by decide +kernel
theorem dX12_looks_3 : decode cX12_looks 3 = .ok (.bipush 8, 2) := by decide +kernel
theorem dX12_looks_5 : decode cX12_looks 5 = .ok (.aload_n 0, 1) := by decide +kernel
theorem dX12_looks_6 : decode cX12_looks 6 = .ok (.getfield 9, 3) := by decide +kernel
theorem dX12_looks_9 : decode cX12_looks 9 = .ok (.iconst 4, 1) := by decide +kernel
theorem dX12_looks_10 : decode cX12_looks 10 = .ok (.iaload, 1) := by decide +kernel
theorem dX12_looks_11 : decode cX12_looks 11 = .ok (.imul, 1) := by decide +kernel
theorem dX12_looks_12 : decode cX12_looks 12 = .ok (.iadd, 1) := by decide +kernel
theorem dX12_looks_13 : decode cX12_looks 13 = .ok (.istore 5, 2) := by decide +kernel
theorem dX12_looks_15 : decode cX12_looks 15 = .ok (.iload 4, 2) := by decide +kernel
theorem dX12_looks_17 : decode cX12_looks 17 = .ok (.aload_n 0, 1) := by decide +kernel
theorem dX12_looks_18 : decode cX12_looks 18 = .ok (.iload_n 1, 1) := by decide +kernel
theorem dX12_looks_19 : decode cX12_looks 19 = .ok (.iload_n 2, 1) := by decide +kernel
theorem dX12_looks_20 : decode cX12_looks 20 = .ok (.iload_n 3, 1) := by decide +kernel
theorem dX12_looks_21 : decode cX12_looks 21 = .ok (.ifCond .le 7, 3) := by decide +kernel
theorem dX12_looks_28 : decode cX12_looks 28 = .ok (.iconst 0, 1) := by decide +kernel
theorem dX12_looks_24 : decode cX12_looks 24 = .ok (.iconst 1, 1) := by decide +kernel
theorem dX12_looks_25 : decode cX12_looks 25 = .ok (.goto 4, 3) := by decide +kernel
def D_X12_looks_103 (N : Nat) (h : mh_H) (l0 : Nat) (l4 : Int32) (l5 : Int32) (l6 : Int32) (s0 : Nat) (s1 : Int32) (s2 : Int32) : Option (Int32 × mh_H) :=
  (uI h s0 s1 s2).bind fun h1 =>
  (gR h1 12 l0 0).bind fun v2 =>
  (gR h1 12 l0 0).bind fun v3 =>
  (aI h1 v3 (5 : Int32)).bind fun v4 =>
  (uI h1 v2 (l5 + (5 : Int32)) v4).bind fun h5 =>
  (gR h5 12 l0 0).bind fun v6 =>
  (gR h5 12 l0 0).bind fun v7 =>
  (aI h5 v7 (3 : Int32)).bind fun v8 =>
  (uI h5 v6 (l5 + (6 : Int32)) v8).bind fun h9 =>
  (gR h9 12 l0 0).bind fun v10 =>
  (uI h9 v10 (l5 + (7 : Int32)) l4).bind fun h11 =>
  (gR h11 12 l0 0).bind fun v12 =>
  (aI h11 v12 (4 : Int32)).bind fun v13 =>
  (uI h11 v12 (4 : Int32) (v13 + (1 : Int32))).bind fun h14 =>
  zB l6 h14
set_option maxHeartbeats 4000000 in
set_option maxRecDepth 100000 in
theorem T_X12_looks_103 {P : mh_E → Prop} {N d : Nat} (hd : 5 ≤ d) {z : (Int32 × mh_H)} {h : mh_H} {l0 : Nat} {l4 : Int32} {l5 : Int32} {l6 : Int32} {s0 : Nat} {s1 : Int32} {s2 : Int32} (hq : D_X12_looks_103 N h l0 l4 l5 l6 s0 s1 s2 = some z) : mh_go P d mX12_looks 103 [some (.ref l0), none, none, none, some (.int l4), some (.int l5), some (.int l6)] [.int s2, .int s1, .ref s0] h (some (.int z.1)) z.2 := by
  unfold D_X12_looks_103 at hq
  refine bd_iast (pc := 103) hq dX12_looks_103 (fun h1 hq => ?_)
  refine st_aload_n (pc := 104) dX12_looks_104 rfl ?_
  refine bd_getr (pc := 105) hq dX12_looks_105 fl_12_9_12 rfl (fun v2 hq => ?_)
  refine st_iload (pc := 108) dX12_looks_108 rfl ?_
  refine st_iconst (pc := 110) (v := (5 : Int32)) dX12_looks_110 rfl ?_
  refine st_iadd (pc := 111) dX12_looks_111 ?_
  refine st_aload_n (pc := 112) dX12_looks_112 rfl ?_
  refine bd_getr (pc := 113) hq dX12_looks_113 fl_12_9_12 rfl (fun v3 hq => ?_)
  refine st_iconst (pc := 116) (v := (5 : Int32)) dX12_looks_116 rfl ?_
  refine bd_iald (pc := 117) hq dX12_looks_117 (fun v4 hq => ?_)
  refine bd_iast (pc := 118) hq dX12_looks_118 (fun h5 hq => ?_)
  refine st_aload_n (pc := 119) dX12_looks_119 rfl ?_
  refine bd_getr (pc := 120) hq dX12_looks_120 fl_12_9_12 rfl (fun v6 hq => ?_)
  refine st_iload (pc := 123) dX12_looks_123 rfl ?_
  refine st_bipush (pc := 125) (v := (6 : Int32)) dX12_looks_125 (by decide) ?_
  refine st_iadd (pc := 127) dX12_looks_127 ?_
  refine st_aload_n (pc := 128) dX12_looks_128 rfl ?_
  refine bd_getr (pc := 129) hq dX12_looks_129 fl_12_9_12 rfl (fun v7 hq => ?_)
  refine st_iconst (pc := 132) (v := (3 : Int32)) dX12_looks_132 rfl ?_
  refine bd_iald (pc := 133) hq dX12_looks_133 (fun v8 hq => ?_)
  refine bd_iast (pc := 134) hq dX12_looks_134 (fun h9 hq => ?_)
  refine st_aload_n (pc := 135) dX12_looks_135 rfl ?_
  refine bd_getr (pc := 136) hq dX12_looks_136 fl_12_9_12 rfl (fun v10 hq => ?_)
  refine st_iload (pc := 139) dX12_looks_139 rfl ?_
  refine st_bipush (pc := 141) (v := (7 : Int32)) dX12_looks_141 (by decide) ?_
  refine st_iadd (pc := 143) dX12_looks_143 ?_
  refine st_iload (pc := 144) dX12_looks_144 rfl ?_
  refine bd_iast (pc := 146) hq dX12_looks_146 (fun h11 hq => ?_)
  refine st_aload_n (pc := 147) dX12_looks_147 rfl ?_
  refine bd_getr (pc := 148) hq dX12_looks_148 fl_12_9_12 rfl (fun v12 hq => ?_)
  refine st_iconst (pc := 151) (v := (4 : Int32)) dX12_looks_151 rfl ?_
  refine st_dup2 (pc := 152) dX12_looks_152 rfl rfl ?_
  refine bd_iald (pc := 153) hq dX12_looks_153 (fun v13 hq => ?_)
  refine st_iconst (pc := 154) (v := (1 : Int32)) dX12_looks_154 rfl ?_
  refine st_iadd (pc := 155) dX12_looks_155 ?_
  refine bd_iast (pc := 156) hq dX12_looks_156 (fun h14 hq => ?_)
  refine st_iload (pc := 157) dX12_looks_157 rfl ?_
  exact bd_zret (pc := 159) hq dX12_looks_159 rfl
def D_X12_looks_40 (N : Nat) (h : mh_H) (l0 : Nat) (l1 : Int32) (l2 : Int32) (l3 : Int32) (l4 : Int32) (l5 : Int32) (s0 : Int32) : Option (Int32 × mh_H) :=
  (gR h 12 l0 0).bind fun v1 =>
  (uI h v1 l5 l1).bind fun h2 =>
  (gR h2 12 l0 0).bind fun v3 =>
  (uI h2 v3 (l5 + (1 : Int32)) l2).bind fun h4 =>
  (gR h4 12 l0 0).bind fun v5 =>
  (gR h4 12 l0 0).bind fun v6 =>
  (aI h4 v6 (0 : Int32)).bind fun v7 =>
  (uI h4 v5 (l5 + (2 : Int32)) v7).bind fun h8 =>
  (gR h8 12 l0 0).bind fun v9 =>
  (uI h8 v9 (l5 + (3 : Int32)) l3).bind fun h10 =>
  (gR h10 12 l0 0).bind fun v11 =>
  if s0 = 0 then (D_X12_looks_103 N h10 l0 l4 l5 s0 v11 (l5 + (4 : Int32)) (0 : Int32))
  else (D_X12_looks_103 N h10 l0 l4 l5 s0 v11 (l5 + (4 : Int32)) (1 : Int32))
set_option maxHeartbeats 4000000 in
set_option maxRecDepth 100000 in
theorem T_X12_looks_40 {P : mh_E → Prop} {N d : Nat} (hd : 5 ≤ d) {z : (Int32 × mh_H)} {h : mh_H} {l0 : Nat} {l1 : Int32} {l2 : Int32} {l3 : Int32} {l4 : Int32} {l5 : Int32} {s0 : Int32} (hq : D_X12_looks_40 N h l0 l1 l2 l3 l4 l5 s0 = some z) : mh_go P d mX12_looks 40 [some (.ref l0), some (.int l1), some (.int l2), some (.int l3), some (.int l4), some (.int l5), none] [.int s0] h (some (.int z.1)) z.2 := by
  unfold D_X12_looks_40 at hq
  refine st_istore (pc := 40) (lv' := [some (.ref l0), some (.int l1), some (.int l2), some (.int l3), some (.int l4), some (.int l5), some (.int s0)]) dX12_looks_40 rfl (by decide) rfl ?_
  refine st_aload_n (pc := 42) dX12_looks_42 rfl ?_
  refine bd_getr (pc := 43) hq dX12_looks_43 fl_12_9_12 rfl (fun v1 hq => ?_)
  refine st_iload (pc := 46) dX12_looks_46 rfl ?_
  refine st_iload_n (pc := 48) dX12_looks_48 rfl ?_
  refine bd_iast (pc := 49) hq dX12_looks_49 (fun h2 hq => ?_)
  refine st_aload_n (pc := 50) dX12_looks_50 rfl ?_
  refine bd_getr (pc := 51) hq dX12_looks_51 fl_12_9_12 rfl (fun v3 hq => ?_)
  refine st_iload (pc := 54) dX12_looks_54 rfl ?_
  refine st_iconst (pc := 56) (v := (1 : Int32)) dX12_looks_56 rfl ?_
  refine st_iadd (pc := 57) dX12_looks_57 ?_
  refine st_iload_n (pc := 58) dX12_looks_58 rfl ?_
  refine bd_iast (pc := 59) hq dX12_looks_59 (fun h4 hq => ?_)
  refine st_aload_n (pc := 60) dX12_looks_60 rfl ?_
  refine bd_getr (pc := 61) hq dX12_looks_61 fl_12_9_12 rfl (fun v5 hq => ?_)
  refine st_iload (pc := 64) dX12_looks_64 rfl ?_
  refine st_iconst (pc := 66) (v := (2 : Int32)) dX12_looks_66 rfl ?_
  refine st_iadd (pc := 67) dX12_looks_67 ?_
  refine st_aload_n (pc := 68) dX12_looks_68 rfl ?_
  refine bd_getr (pc := 69) hq dX12_looks_69 fl_12_9_12 rfl (fun v6 hq => ?_)
  refine st_iconst (pc := 72) (v := (0 : Int32)) dX12_looks_72 rfl ?_
  refine bd_iald (pc := 73) hq dX12_looks_73 (fun v7 hq => ?_)
  refine bd_iast (pc := 74) hq dX12_looks_74 (fun h8 hq => ?_)
  refine st_aload_n (pc := 75) dX12_looks_75 rfl ?_
  refine bd_getr (pc := 76) hq dX12_looks_76 fl_12_9_12 rfl (fun v9 hq => ?_)
  refine st_iload (pc := 79) dX12_looks_79 rfl ?_
  refine st_iconst (pc := 81) (v := (3 : Int32)) dX12_looks_81 rfl ?_
  refine st_iadd (pc := 82) dX12_looks_82 ?_
  refine st_iload_n (pc := 83) dX12_looks_83 rfl ?_
  refine bd_iast (pc := 84) hq dX12_looks_84 (fun h10 hq => ?_)
  refine st_aload_n (pc := 85) dX12_looks_85 rfl ?_
  refine bd_getr (pc := 86) hq dX12_looks_86 fl_12_9_12 rfl (fun v11 hq => ?_)
  refine st_iload (pc := 89) dX12_looks_89 rfl ?_
  refine st_iconst (pc := 91) (v := (4 : Int32)) dX12_looks_91 rfl ?_
  refine st_iadd (pc := 92) dX12_looks_92 ?_
  refine st_iload (pc := 93) dX12_looks_93 rfl ?_
  refine bd_if_eq (pc := 95) (tgt := 102) hq dX12_looks_95 (by decide) (fun _ hq => ?_) (fun _ hq => ?_)
  ·
    refine st_iconst (pc := 102) (v := (0 : Int32)) dX12_looks_102 rfl ?_
    refine st_lesS (lv' := [some (.ref l0), none, none, none, some (.int l4), some (.int l5), some (.int s0)]) ⟨Or.inr rfl, Or.inl rfl, Or.inl rfl, Or.inl rfl, Or.inr rfl, Or.inr rfl, Or.inr rfl, trivial⟩ ?_
    exact T_X12_looks_103 hd hq
  ·
    refine st_iconst (pc := 98) (v := (1 : Int32)) dX12_looks_98 rfl ?_
    refine st_goto (pc := 99) (tgt := 103) dX12_looks_99 (by decide) ?_
    refine st_lesS (lv' := [some (.ref l0), none, none, none, some (.int l4), some (.int l5), some (.int s0)]) ⟨Or.inr rfl, Or.inl rfl, Or.inl rfl, Or.inl rfl, Or.inr rfl, Or.inr rfl, Or.inr rfl, trivial⟩ ?_
    exact T_X12_looks_103 hd hq
def D_X12_looks_29 (N : Nat) (h : mh_H) (l0 : Nat) (l1 : Int32) (l2 : Int32) (l3 : Int32) (l4 : Int32) (l5 : Int32) (s0 : Int32) (s1 : Nat) (s2 : Int32) (s3 : Int32) (s4 : Int32) : Option (Int32 × mh_H) :=
  kO h 12 s1 <|
  (D_X12_seenOf N h s1 s2 s3 s4).bind fun q1 =>
  if s0 < q1.1 then (D_X12_looks_40 N q1.2 l0 l1 l2 l3 l4 l5 (0 : Int32))
  else (D_X12_looks_40 N q1.2 l0 l1 l2 l3 l4 l5 (1 : Int32))
set_option maxHeartbeats 4000000 in
set_option maxRecDepth 100000 in
theorem T_X12_looks_29 {P : mh_E → Prop} {N d : Nat} (hd : 5 ≤ d) {z : (Int32 × mh_H)} {h : mh_H} {l0 : Nat} {l1 : Int32} {l2 : Int32} {l3 : Int32} {l4 : Int32} {l5 : Int32} {s0 : Int32} {s1 : Nat} {s2 : Int32} {s3 : Int32} {s4 : Int32} (hq : D_X12_looks_29 N h l0 l1 l2 l3 l4 l5 s0 s1 s2 s3 s4 = some z) : mh_go P d mX12_looks 29 [some (.ref l0), some (.int l1), some (.int l2), some (.int l3), some (.int l4), some (.int l5), none] [.int s4, .int s3, .int s2, .ref s1, .int s0] h (some (.int z.1)) z.2 := by
  unfold D_X12_looks_29 at hq
  obtain ⟨⟨hbq1, hkq1⟩, hq⟩ := mh_oi hq
  obtain ⟨q1, e1, hq⟩ := mh_ob hq
  refine st_invV (pc := 29) (ci := 12) (vs := [.int s2, .int s3, .int s4]) (rest := [.int s0]) (st2 := [.int q1.1, .int s0]) dX12_looks_29 okX12_seenOf (by decide) hkq1 hbq1 wd_1544 wd_1546 wp_73 pdX12_seenOf rfl rfl rfl rfl (Nat.le_trans (by decide) hd) (Nat.le_of_ble_eq_true rfl) (T_X12_seenOf (Nat.le_refl _) e1) rfl ?_
  refine bd_icmp_lt (pc := 32) (tgt := 39) hq dX12_looks_32 (by decide) (fun _ hq => ?_) (fun _ hq => ?_)
  ·
    refine st_iconst (pc := 39) (v := (0 : Int32)) dX12_looks_39 rfl ?_
    exact T_X12_looks_40 hd hq
  ·
    refine st_iconst (pc := 35) (v := (1 : Int32)) dX12_looks_35 rfl ?_
    refine st_goto (pc := 36) (tgt := 40) dX12_looks_36 (by decide) ?_
    exact T_X12_looks_40 hd hq
def D_X12_looks (N : Nat) (h : mh_H) (l0 : Nat) (l1 : Int32) (l2 : Int32) (l3 : Int32) (l4 : Int32) : Option (Int32 × mh_H) :=
  (gR h 12 l0 0).bind fun v1 =>
  (aI h v1 (4 : Int32)).bind fun v2 =>
  if l3 ≤ 0 then (D_X12_looks_29 N h l0 l1 l2 l3 l4 ((7076 : Int32) + ((8 : Int32) * v2)) l4 l0 l1 l2 (0 : Int32))
  else (D_X12_looks_29 N h l0 l1 l2 l3 l4 ((7076 : Int32) + ((8 : Int32) * v2)) l4 l0 l1 l2 (1 : Int32))
set_option maxHeartbeats 4000000 in
set_option maxRecDepth 100000 in
theorem T_X12_looks {P : mh_E → Prop} {N d : Nat} (hd : 5 ≤ d) {z : (Int32 × mh_H)} {h : mh_H} {l0 : Nat} {l1 : Int32} {l2 : Int32} {l3 : Int32} {l4 : Int32} (hq : D_X12_looks N h l0 l1 l2 l3 l4 = some z) : mh_go P d mX12_looks 0 [some (.ref l0), some (.int l1), some (.int l2), some (.int l3), some (.int l4), none, none] [] h (some (.int z.1)) z.2 := by
  unfold D_X12_looks at hq
  refine st_sipush (pc := 0) (v := (7076 : Int32)) dX12_looks_0 (by decide) ?_
  refine st_bipush (pc := 3) (v := (8 : Int32)) dX12_looks_3 (by decide) ?_
  refine st_aload_n (pc := 5) dX12_looks_5 rfl ?_
  refine bd_getr (pc := 6) hq dX12_looks_6 fl_12_9_12 rfl (fun v1 hq => ?_)
  refine st_iconst (pc := 9) (v := (4 : Int32)) dX12_looks_9 rfl ?_
  refine bd_iald (pc := 10) hq dX12_looks_10 (fun v2 hq => ?_)
  refine st_imul (pc := 11) dX12_looks_11 ?_
  refine st_iadd (pc := 12) dX12_looks_12 ?_
  refine st_istore (pc := 13) (lv' := [some (.ref l0), some (.int l1), some (.int l2), some (.int l3), some (.int l4), some (.int ((7076 : Int32) + ((8 : Int32) * v2))), none]) dX12_looks_13 rfl (by decide) rfl ?_
  refine st_iload (pc := 15) dX12_looks_15 rfl ?_
  refine st_aload_n (pc := 17) dX12_looks_17 rfl ?_
  refine st_iload_n (pc := 18) dX12_looks_18 rfl ?_
  refine st_iload_n (pc := 19) dX12_looks_19 rfl ?_
  refine st_iload_n (pc := 20) dX12_looks_20 rfl ?_
  refine bd_if_le (pc := 21) (tgt := 28) hq dX12_looks_21 (by decide) (fun _ hq => ?_) (fun _ hq => ?_)
  ·
    refine st_iconst (pc := 28) (v := (0 : Int32)) dX12_looks_28 rfl ?_
    exact T_X12_looks_29 hd hq
  ·
    refine st_iconst (pc := 24) (v := (1 : Int32)) dX12_looks_24 rfl ?_
    refine st_goto (pc := 25) (tgt := 29) dX12_looks_25 (by decide) ?_
    exact T_X12_looks_29 hd hq
-- HoleWaterModel.bottle(II)I
theorem dX12_bottle_15 : decode cX12_bottle 15 = .ok (.aload_n 0, 1) := by decide +kernel
theorem dX12_bottle_16 : decode cX12_bottle 16 = .ok (.iconst 1, 1) := by decide +kernel
theorem dX12_bottle_17 : decode cX12_bottle 17 = .ok (.invokevirtual 80, 3) := by decide +kernel
theorem dX12_bottle_20 : decode cX12_bottle 20 = .ok (.ireturn, 1) := by decide +kernel
theorem dX12_bottle_0 : decode cX12_bottle 0 = .ok (.aload_n 0, 1) := by decide +kernel
theorem dX12_bottle_1 : decode cX12_bottle 1 = .ok (.iload_n 1, 1) := by decide +kernel
theorem dX12_bottle_2 : decode cX12_bottle 2 = .ok (.invokevirtual 83, 3) := by decide +kernel
theorem dX12_bottle_5 : decode cX12_bottle 5 = .ok (.ifCond .eq 10, 3) := by decide +kernel
theorem dX12_bottle_8 : decode cX12_bottle 8 = .ok (.iload_n 2, 1) := by decide +kernel
theorem dX12_bottle_9 : decode cX12_bottle 9 = .ok (.invokestatic 155, 3) := by decide +kernel
theorem dX12_bottle_12 : decode cX12_bottle 12 = .ok (.ifCond .ne 9, 3) := by decide +kernel
theorem dX12_bottle_21 : decode cX12_bottle 21 = .ok (.aload_n 0, 1) := by decide +kernel
theorem dX12_bottle_22 : decode cX12_bottle 22 = .ok (.iload_n 1, 1) := by decide +kernel
theorem dX12_bottle_23 : decode cX12_bottle 23 = .ok (.invokevirtual 126, 3) := by decide +kernel
theorem dX12_bottle_26 : decode cX12_bottle 26 = .ok (.ifCond .ne 9, 3) := by decide +kernel
theorem dX12_bottle_29 : decode cX12_bottle 29 = .ok (.aload_n 0, 1) := by decide +kernel
theorem dX12_bottle_30 : decode cX12_bottle 30 = .ok (.iconst 5, 1) := by decide +kernel
theorem dX12_bottle_31 : decode cX12_bottle 31 = .ok (.invokevirtual 80, 3) := by decide +kernel
theorem dX12_bottle_34 : decode cX12_bottle 34 = .ok (.ireturn, 1) := by decide +kernel
theorem dX12_bottle_35 : decode cX12_bottle 35 = .ok (.aload_n 0, 1) := by decide +kernel
theorem dX12_bottle_36 : decode cX12_bottle 36 = .ok (.getfield 9, 3) := by decide +kernel
theorem dX12_bottle_39 : decode cX12_bottle 39 = .ok (.iconst 4, 1) := by decide +kernel
theorem dX12_bottle_40 : decode cX12_bottle 40 = .ok (.iaload, 1) := by decide +kernel
theorem dX12_bottle_41 : decode cX12_bottle 41 = .ok (.bipush 60, 2) := by decide +kernel
theorem dX12_bottle_43 : decode cX12_bottle 43 = .ok (.if_icmp .ne 9, 3) := by decide +kernel
theorem dX12_bottle_46 : decode cX12_bottle 46 = .ok (.aload_n 0, 1) := by decide +kernel
theorem dX12_bottle_47 : decode cX12_bottle 47 = .ok (.iconst 4, 1) := by decide +kernel
theorem dX12_bottle_48 : decode cX12_bottle 48 = .ok (.invokevirtual 80, 3) := by decide +kernel
theorem dX12_bottle_51 : decode cX12_bottle 51 = .ok (.ireturn, 1) := by decide +kernel
theorem dX12_bottle_52 : decode cX12_bottle 52 = .ok (.aload_n 0, 1) := by decide +kernel
theorem dX12_bottle_53 : decode cX12_bottle 53 = .ok (.iload_n 1, 1) := by decide +kernel
theorem dX12_bottle_54 : decode cX12_bottle 54 = .ok (.iload_n 2, 1) := by decide +kernel
theorem dX12_bottle_55 : decode cX12_bottle 55 = .ok (.iconst 1, 1) := by decide +kernel
theorem dX12_bottle_56 : decode cX12_bottle 56 = .ok (.invokevirtual 179, 3) := by decide +kernel
theorem dX12_bottle_59 : decode cX12_bottle 59 = .ok (.istore_n 3, 1) := by decide +kernel
theorem dX12_bottle_60 : decode cX12_bottle 60 = .ok (.aload_n 0, 1) := by decide +kernel
theorem dX12_bottle_61 : decode cX12_bottle 61 = .ok (.iload_n 1, 1) := by decide +kernel
theorem dX12_bottle_62 : decode cX12_bottle 62 = .ok (.iload_n 2, 1) := by decide +kernel
theorem dX12_bottle_63 : decode cX12_bottle 63 = .ok (.iconst 0, 1) := by decide +kernel
theorem dX12_bottle_64 : decode cX12_bottle 64 = .ok (.iload_n 3, 1) := by decide +kernel
theorem dX12_bottle_65 : decode cX12_bottle 65 = .ok (.invokevirtual 265, 3) := by decide +kernel
theorem dX12_bottle_68 : decode cX12_bottle 68 = .ok (.ifCond .eq 7, 3) := by decide +kernel
theorem dX12_bottle_75 : decode cX12_bottle 75 = .ok (.iconst 0, 1) := by decide +kernel
theorem dX12_bottle_76 : decode cX12_bottle 76 = .ok (.ireturn, 1) := by decide +kernel
theorem dX12_bottle_71 : decode cX12_bottle 71 = .ok (.iload_n 3, 1) := by decide +kernel
theorem dX12_bottle_72 : decode cX12_bottle 72 = .ok (.goto 4, 3) := by decide +kernel
def D_X12_bottle_15 (N : Nat) (h : mh_H) (l0 : Nat) : Option (Int32 × mh_H) :=
  kO h 12 l0 <|
  (D_X12_error N h l0 (1 : Int32)).bind fun q1 =>
  some (q1.1, q1.2)
set_option maxHeartbeats 4000000 in
set_option maxRecDepth 100000 in
theorem T_X12_bottle_15 {P : mh_E → Prop} {N d : Nat} (hd : 6 ≤ d) {z : (Int32 × mh_H)} {h : mh_H} {l0 : Nat} (hq : D_X12_bottle_15 N h l0 = some z) : mh_go P d mX12_bottle 15 [some (.ref l0), none, none, none] [] h (some (.int z.1)) z.2 := by
  unfold D_X12_bottle_15 at hq
  refine st_aload_n (pc := 15) dX12_bottle_15 rfl ?_
  refine st_iconst (pc := 16) (v := (1 : Int32)) dX12_bottle_16 rfl ?_
  obtain ⟨⟨hbq1, hkq1⟩, hq⟩ := mh_oi hq
  obtain ⟨q1, e1, hq⟩ := mh_ob hq
  refine st_invV (pc := 17) (ci := 12) (vs := [.int (1 : Int32)]) (rest := []) (st2 := [.int q1.1]) dX12_bottle_17 okX12_error (by decide) hkq1 hbq1 wd_1274 wd_1276 wp_37 pdX12_error rfl rfl rfl rfl (Nat.le_trans (by decide) hd) (Nat.le_of_ble_eq_true rfl) (T_X12_error (Nat.le_refl _) e1) rfl ?_
  exact bd_iret (pc := 20) hq dX12_bottle_20 rfl
def D_X12_bottle (N : Nat) (h : mh_H) (l0 : Nat) (l1 : Int32) (l2 : Int32) : Option (Int32 × mh_H) :=
  kO h 12 l0 <|
  (D_X12_isJoint N h l0 l1).bind fun q1 =>
  if q1.1 = 0 then (D_X12_bottle_15 N q1.2 l0)
  else ((D_X12_isColour N q1.2 l2).bind fun q2 =>
  if q2.1 = 0 then (D_X12_bottle_15 N q2.2 l0)
  else (kO q2.2 12 l0 <|
  (D_X12_isSpring N q2.2 l0 l1).bind fun q3 =>
  if q3.1 = 0 then (kO q3.2 12 l0 <|
  (D_X12_error N q3.2 l0 (5 : Int32)).bind fun q4 =>
  some (q4.1, q4.2))
  else ((gR q3.2 12 l0 0).bind fun v4 =>
  (aI q3.2 v4 (4 : Int32)).bind fun v5 =>
  if v5 = (60 : Int32) then (kO q3.2 12 l0 <|
  (D_X12_error N q3.2 l0 (4 : Int32)).bind fun q6 =>
  some (q6.1, q6.2))
  else (kO q3.2 12 l0 <|
  (D_X12_outAgo N q3.2 l0 l1 l2 (1 : Int32)).bind fun q6 =>
  kO q6.2 12 l0 <|
  (D_X12_looks N q6.2 l0 l1 l2 (0 : Int32) q6.1).bind fun q7 =>
  if q7.1 = 0 then (some ((0 : Int32), q7.2))
  else (some (q6.1, q7.2))))))
set_option maxHeartbeats 4000000 in
set_option maxRecDepth 100000 in
theorem T_X12_bottle {P : mh_E → Prop} {N d : Nat} (hd : 6 ≤ d) {z : (Int32 × mh_H)} {h : mh_H} {l0 : Nat} {l1 : Int32} {l2 : Int32} (hq : D_X12_bottle N h l0 l1 l2 = some z) : mh_go P d mX12_bottle 0 [some (.ref l0), some (.int l1), some (.int l2), none] [] h (some (.int z.1)) z.2 := by
  unfold D_X12_bottle at hq
  refine st_aload_n (pc := 0) dX12_bottle_0 rfl ?_
  refine st_iload_n (pc := 1) dX12_bottle_1 rfl ?_
  obtain ⟨⟨hbq1, hkq1⟩, hq⟩ := mh_oi hq
  obtain ⟨q1, e1, hq⟩ := mh_ob hq
  refine st_invV (pc := 2) (ci := 12) (vs := [.int l1]) (rest := []) (st2 := [.int q1.1]) dX12_bottle_2 okX12_isJoint (by decide) hkq1 hbq1 wd_1286 wd_1288 wp_38 pdX12_isJoint rfl rfl rfl rfl (Nat.le_trans (by decide) hd) (Nat.le_of_ble_eq_true rfl) (T_X12_isJoint (Nat.le_refl _) e1) rfl ?_
  refine bd_if_eq (pc := 5) (tgt := 15) hq dX12_bottle_5 (by decide) (fun _ hq => ?_) (fun _ hq => ?_)
  ·
    refine st_lesS (lv' := [some (.ref l0), none, none, none]) ⟨Or.inr rfl, Or.inl rfl, Or.inl rfl, Or.inr rfl, trivial⟩ ?_
    exact T_X12_bottle_15 hd hq
  ·
    refine st_iload_n (pc := 8) dX12_bottle_8 rfl ?_
    obtain ⟨q2, e2, hq⟩ := mh_ob hq
    refine st_invS (pc := 9) (Y := mX12_isColour) (vs := [.int l2]) (rest := []) (st2 := [.int q2.1]) dX12_bottle_9 okX12_isColour wd_1358 wd_1359 pdX12_isColour rfl rfl rfl rfl (Nat.le_trans (by decide) hd) (Nat.le_of_ble_eq_true rfl) (T_X12_isColour (Nat.le_refl _) e2) rfl ?_
    refine bd_if_ne (pc := 12) (tgt := 21) hq dX12_bottle_12 (by decide) (fun _ hq => ?_) (fun _ hq => ?_)
    ·
      refine st_lesS (lv' := [some (.ref l0), none, none, none]) ⟨Or.inr rfl, Or.inl rfl, Or.inl rfl, Or.inr rfl, trivial⟩ ?_
      exact T_X12_bottle_15 hd hq
    ·
      refine st_aload_n (pc := 21) dX12_bottle_21 rfl ?_
      refine st_iload_n (pc := 22) dX12_bottle_22 rfl ?_
      obtain ⟨⟨hbq3, hkq3⟩, hq⟩ := mh_oi hq
      obtain ⟨q3, e3, hq⟩ := mh_ob hq
      refine st_invV (pc := 23) (ci := 12) (vs := [.int l1]) (rest := []) (st2 := [.int q3.1]) dX12_bottle_23 okX12_isSpring (by decide) hkq3 hbq3 wd_1399 wd_1401 wp_52 pdX12_isSpring rfl rfl rfl rfl (Nat.le_trans (by decide) hd) (Nat.le_of_ble_eq_true rfl) (T_X12_isSpring (Nat.le_refl _) e3) rfl ?_
      refine bd_if_ne (pc := 26) (tgt := 35) hq dX12_bottle_26 (by decide) (fun _ hq => ?_) (fun _ hq => ?_)
      ·
        refine st_aload_n (pc := 29) dX12_bottle_29 rfl ?_
        refine st_iconst (pc := 30) (v := (5 : Int32)) dX12_bottle_30 rfl ?_
        obtain ⟨⟨hbq4, hkq4⟩, hq⟩ := mh_oi hq
        obtain ⟨q4, e4, hq⟩ := mh_ob hq
        refine st_invV (pc := 31) (ci := 12) (vs := [.int (5 : Int32)]) (rest := []) (st2 := [.int q4.1]) dX12_bottle_31 okX12_error (by decide) hkq4 hbq4 wd_1274 wd_1276 wp_37 pdX12_error rfl rfl rfl rfl (Nat.le_trans (by decide) hd) (Nat.le_of_ble_eq_true rfl) (T_X12_error (Nat.le_refl _) e4) rfl ?_
        exact bd_iret (pc := 34) hq dX12_bottle_34 rfl
      ·
        refine st_aload_n (pc := 35) dX12_bottle_35 rfl ?_
        refine bd_getr (pc := 36) hq dX12_bottle_36 fl_12_9_12 rfl (fun v4 hq => ?_)
        refine st_iconst (pc := 39) (v := (4 : Int32)) dX12_bottle_39 rfl ?_
        refine bd_iald (pc := 40) hq dX12_bottle_40 (fun v5 hq => ?_)
        refine st_bipush (pc := 41) (v := (60 : Int32)) dX12_bottle_41 (by decide) ?_
        refine bd_icmp_ne (pc := 43) (tgt := 52) hq dX12_bottle_43 (by decide) (fun _ hq => ?_) (fun _ hq => ?_)
        ·
          refine st_aload_n (pc := 46) dX12_bottle_46 rfl ?_
          refine st_iconst (pc := 47) (v := (4 : Int32)) dX12_bottle_47 rfl ?_
          obtain ⟨⟨hbq6, hkq6⟩, hq⟩ := mh_oi hq
          obtain ⟨q6, e6, hq⟩ := mh_ob hq
          refine st_invV (pc := 48) (ci := 12) (vs := [.int (4 : Int32)]) (rest := []) (st2 := [.int q6.1]) dX12_bottle_48 okX12_error (by decide) hkq6 hbq6 wd_1274 wd_1276 wp_37 pdX12_error rfl rfl rfl rfl (Nat.le_trans (by decide) hd) (Nat.le_of_ble_eq_true rfl) (T_X12_error (Nat.le_refl _) e6) rfl ?_
          exact bd_iret (pc := 51) hq dX12_bottle_51 rfl
        ·
          refine st_aload_n (pc := 52) dX12_bottle_52 rfl ?_
          refine st_iload_n (pc := 53) dX12_bottle_53 rfl ?_
          refine st_iload_n (pc := 54) dX12_bottle_54 rfl ?_
          refine st_iconst (pc := 55) (v := (1 : Int32)) dX12_bottle_55 rfl ?_
          obtain ⟨⟨hbq6, hkq6⟩, hq⟩ := mh_oi hq
          obtain ⟨q6, e6, hq⟩ := mh_ob hq
          refine st_invV (pc := 56) (ci := 12) (vs := [.int l1, .int l2, .int (1 : Int32)]) (rest := []) (st2 := [.int q6.1]) dX12_bottle_56 okX12_outAgo (by decide) hkq6 hbq6 wd_1461 wd_1463 wp_60 pdX12_outAgo rfl rfl rfl rfl (Nat.le_trans (by decide) hd) (Nat.le_of_ble_eq_true rfl) (T_X12_outAgo (Nat.le_refl _) e6) rfl ?_
          refine st_istore_n (pc := 59) (lv' := [some (.ref l0), some (.int l1), some (.int l2), some (.int q6.1)]) dX12_bottle_59 rfl (by decide) rfl ?_
          refine st_aload_n (pc := 60) dX12_bottle_60 rfl ?_
          refine st_iload_n (pc := 61) dX12_bottle_61 rfl ?_
          refine st_iload_n (pc := 62) dX12_bottle_62 rfl ?_
          refine st_iconst (pc := 63) (v := (0 : Int32)) dX12_bottle_63 rfl ?_
          refine st_iload_n (pc := 64) dX12_bottle_64 rfl ?_
          obtain ⟨⟨hbq7, hkq7⟩, hq⟩ := mh_oi hq
          obtain ⟨q7, e7, hq⟩ := mh_ob hq
          refine st_invV (pc := 65) (ci := 12) (vs := [.int l1, .int l2, .int (0 : Int32), .int q6.1]) (rest := []) (st2 := [.int q7.1]) dX12_bottle_65 okX12_looks (by decide) hkq7 hbq7 wd_1552 wd_1554 wp_74 pdX12_looks rfl rfl rfl rfl (Nat.le_trans (by decide) hd) (Nat.le_of_ble_eq_true rfl) (T_X12_looks (Nat.le_refl _) e7) rfl ?_
          refine bd_if_eq (pc := 68) (tgt := 75) hq dX12_bottle_68 (by decide) (fun _ hq => ?_) (fun _ hq => ?_)
          ·
            refine st_iconst (pc := 75) (v := (0 : Int32)) dX12_bottle_75 rfl ?_
            exact bd_iret (pc := 76) hq dX12_bottle_76 rfl
          ·
            refine st_iload_n (pc := 71) dX12_bottle_71 rfl ?_
            refine st_goto (pc := 72) (tgt := 76) dX12_bottle_72 (by decide) ?_
            exact bd_iret (pc := 76) hq dX12_bottle_76 rfl
-- HoleWaterModel.bag(III)I
theorem dX12_bag_27 : decode cX12_bag 27 = .ok (.aload_n 0, 1) := by decide +kernel
theorem dX12_bag_28 : decode cX12_bag 28 = .ok (.iconst 1, 1) := by decide +kernel
theorem dX12_bag_29 : decode cX12_bag 29 = .ok (.invokevirtual 80, 3) := by decide +kernel
theorem dX12_bag_32 : decode cX12_bag 32 = .ok (.ireturn, 1) := by decide +kernel
theorem dX12_bag_70 : decode cX12_bag 70 = .ok (.iload 5, 2) := by decide +kernel
theorem dX12_bag_72 : decode cX12_bag 72 = .ok (.iload_n 3, 1) := by decide +kernel
theorem dX12_bag_73 : decode cX12_bag 73 = .ok (.if_icmp .gt 22, 3) := by decide +kernel
theorem dX12_bag_95 : decode cX12_bag 95 = .ok (.aload_n 0, 1) := by decide +kernel
theorem dX12_bag_96 : decode cX12_bag 96 = .ok (.iload_n 1, 1) := by decide +kernel
theorem dX12_bag_97 : decode cX12_bag 97 = .ok (.iload_n 2, 1) := by decide +kernel
theorem dX12_bag_98 : decode cX12_bag 98 = .ok (.iload_n 3, 1) := by decide +kernel
theorem dX12_bag_99 : decode cX12_bag 99 = .ok (.iload 4, 2) := by decide +kernel
theorem dX12_bag_101 : decode cX12_bag 101 = .ok (.invokevirtual 265, 3) := by decide +kernel
theorem dX12_bag_104 : decode cX12_bag 104 = .ok (.ifCond .eq 7, 3) := by decide +kernel
theorem dX12_bag_111 : decode cX12_bag 111 = .ok (.iconst 0, 1) := by decide +kernel
theorem dX12_bag_112 : decode cX12_bag 112 = .ok (.ireturn, 1) := by decide +kernel
theorem dX12_bag_107 : decode cX12_bag 107 = .ok (.iconst 1, 1) := by decide +kernel
theorem dX12_bag_108 : decode cX12_bag 108 = .ok (.goto 4, 3) := by decide +kernel
theorem dX12_bag_76 : decode cX12_bag 76 = .ok (.iload 4, 2) := by decide +kernel
theorem dX12_bag_78 : decode cX12_bag 78 = .ok (.aload_n 0, 1) := by decide +kernel
theorem dX12_bag_79 : decode cX12_bag 79 = .ok (.iload_n 1, 1) := by decide +kernel
theorem dX12_bag_80 : decode cX12_bag 80 = .ok (.iload_n 2, 1) := by decide +kernel
theorem dX12_bag_81 : decode cX12_bag 81 = .ok (.iload 5, 2) := by decide +kernel
theorem dX12_bag_83 : decode cX12_bag 83 = .ok (.invokevirtual 179, 3) := by decide +kernel
theorem dX12_bag_86 : decode cX12_bag 86 = .ok (.iadd, 1) := by decide +kernel
theorem dX12_bag_87 : decode cX12_bag 87 = .ok (.istore 4, 2) := by decide +kernel
theorem dX12_bag_89 : decode cX12_bag 89 = .ok (.iinc 5 1, 3) := by decide +kernel
theorem dX12_bag_92 : decode cX12_bag 92 = .ok (.goto (-22), 3) := by decide +kernel
theorem dX12_bag_0 : decode cX12_bag 0 = .ok (.aload_n 0, 1) := by decide +kernel
theorem dX12_bag_1 : decode cX12_bag 1 = .ok (.iload_n 1, 1) := by decide +kernel
theorem dX12_bag_2 : decode cX12_bag 2 = .ok (.invokevirtual 83, 3) := by decide +kernel
theorem dX12_bag_5 : decode cX12_bag 5 = .ok (.ifCond .eq 22, 3) := by decide +kernel
theorem dX12_bag_8 : decode cX12_bag 8 = .ok (.iload_n 2, 1) := by decide +kernel
theorem dX12_bag_9 : decode cX12_bag 9 = .ok (.invokestatic 155, 3) := by decide +kernel
theorem dX12_bag_12 : decode cX12_bag 12 = .ok (.ifCond .eq 15, 3) := by decide +kernel
theorem dX12_bag_15 : decode cX12_bag 15 = .ok (.iload_n 3, 1) := by decide +kernel
theorem dX12_bag_16 : decode cX12_bag 16 = .ok (.i2l, 1) := by decide +kernel
theorem dX12_bag_17 : decode cX12_bag 17 = .ok (.lconst 1, 1) := by decide +kernel
theorem dX12_bag_18 : decode cX12_bag 18 = .ok (.ldc2_w 177, 3) := by decide +kernel
theorem dX12_bag_21 : decode cX12_bag 21 = .ok (.invokestatic 65, 3) := by decide +kernel
theorem dX12_bag_24 : decode cX12_bag 24 = .ok (.ifCond .ne 9, 3) := by decide +kernel
theorem dX12_bag_33 : decode cX12_bag 33 = .ok (.aload_n 0, 1) := by decide +kernel
theorem dX12_bag_34 : decode cX12_bag 34 = .ok (.iload_n 1, 1) := by decide +kernel
theorem dX12_bag_35 : decode cX12_bag 35 = .ok (.invokevirtual 126, 3) := by decide +kernel
theorem dX12_bag_38 : decode cX12_bag 38 = .ok (.ifCond .ne 9, 3) := by decide +kernel
theorem dX12_bag_41 : decode cX12_bag 41 = .ok (.aload_n 0, 1) := by decide +kernel
theorem dX12_bag_42 : decode cX12_bag 42 = .ok (.iconst 5, 1) := by decide +kernel
theorem dX12_bag_43 : decode cX12_bag 43 = .ok (.invokevirtual 80, 3) := by decide +kernel
theorem dX12_bag_46 : decode cX12_bag 46 = .ok (.ireturn, 1) := by decide +kernel
theorem dX12_bag_47 : decode cX12_bag 47 = .ok (.aload_n 0, 1) := by decide +kernel
theorem dX12_bag_48 : decode cX12_bag 48 = .ok (.getfield 9, 3) := by decide +kernel
theorem dX12_bag_51 : decode cX12_bag 51 = .ok (.iconst 4, 1) := by decide +kernel
theorem dX12_bag_52 : decode cX12_bag 52 = .ok (.iaload, 1) := by decide +kernel
theorem dX12_bag_53 : decode cX12_bag 53 = .ok (.bipush 60, 2) := by decide +kernel
theorem dX12_bag_55 : decode cX12_bag 55 = .ok (.if_icmp .ne 9, 3) := by decide +kernel
theorem dX12_bag_58 : decode cX12_bag 58 = .ok (.aload_n 0, 1) := by decide +kernel
theorem dX12_bag_59 : decode cX12_bag 59 = .ok (.iconst 4, 1) := by decide +kernel
theorem dX12_bag_60 : decode cX12_bag 60 = .ok (.invokevirtual 80, 3) := by decide +kernel
theorem dX12_bag_63 : decode cX12_bag 63 = .ok (.ireturn, 1) := by decide +kernel
theorem dX12_bag_64 : decode cX12_bag 64 = .ok (.iconst 0, 1) := by decide +kernel
theorem dX12_bag_65 : decode cX12_bag 65 = .ok (.istore 4, 2) := by decide +kernel
theorem dX12_bag_67 : decode cX12_bag 67 = .ok (.iconst 1, 1) := by decide +kernel
theorem dX12_bag_68 : decode cX12_bag 68 = .ok (.istore 5, 2) := by decide +kernel
def D_X12_bag_27 (N : Nat) (h : mh_H) (l0 : Nat) : Option (Int32 × mh_H) :=
  kO h 12 l0 <|
  (D_X12_error N h l0 (1 : Int32)).bind fun q1 =>
  some (q1.1, q1.2)
set_option maxHeartbeats 4000000 in
set_option maxRecDepth 100000 in
theorem T_X12_bag_27 {P : mh_E → Prop} {N d : Nat} (hd : 6 ≤ d) {z : (Int32 × mh_H)} {h : mh_H} {l0 : Nat} (hq : D_X12_bag_27 N h l0 = some z) : mh_go P d mX12_bag 27 [some (.ref l0), none, none, none, none, none] [] h (some (.int z.1)) z.2 := by
  unfold D_X12_bag_27 at hq
  refine st_aload_n (pc := 27) dX12_bag_27 rfl ?_
  refine st_iconst (pc := 28) (v := (1 : Int32)) dX12_bag_28 rfl ?_
  obtain ⟨⟨hbq1, hkq1⟩, hq⟩ := mh_oi hq
  obtain ⟨q1, e1, hq⟩ := mh_ob hq
  refine st_invV (pc := 29) (ci := 12) (vs := [.int (1 : Int32)]) (rest := []) (st2 := [.int q1.1]) dX12_bag_29 okX12_error (by decide) hkq1 hbq1 wd_1274 wd_1276 wp_37 pdX12_error rfl rfl rfl rfl (Nat.le_trans (by decide) hd) (Nat.le_of_ble_eq_true rfl) (T_X12_error (Nat.le_refl _) e1) rfl ?_
  exact bd_iret (pc := 32) hq dX12_bag_32 rfl
def D_X12_bag_70 (N : Nat) : Nat → mh_H → Nat → Int32 → Int32 → Int32 → Int32 → Int32 → Option (Int32 × mh_H)
  | 0, _, _, _, _, _, _, _ => none
  | F + 1, h, l0, l1, l2, l3, l4, l5 =>
    if l3 < l5 then (kO h 12 l0 <|
    (D_X12_looks N h l0 l1 l2 l3 l4).bind fun q1 =>
    if q1.1 = 0 then (some ((0 : Int32), q1.2))
    else (some ((1 : Int32), q1.2)))
    else (kO h 12 l0 <|
    (D_X12_outAgo N h l0 l1 l2 l5).bind fun q1 =>
    (D_X12_bag_70 N F) q1.2 l0 l1 l2 l3 (l4 + q1.1) (l5 + Int32.ofInt (1)))
set_option maxHeartbeats 4000000 in
set_option maxRecDepth 100000 in
theorem T_X12_bag_70 {P : mh_E → Prop} {N d : Nat} (hd : 6 ≤ d) {z : (Int32 × mh_H)} : ∀ (F : Nat) (h : mh_H) (l0 : Nat) (l1 : Int32) (l2 : Int32) (l3 : Int32) (l4 : Int32) (l5 : Int32), D_X12_bag_70 N F h l0 l1 l2 l3 l4 l5 = some z → mh_go P d mX12_bag 70 [some (.ref l0), some (.int l1), some (.int l2), some (.int l3), some (.int l4), some (.int l5)] [] h (some (.int z.1)) z.2 := by
  intro F
  induction F with
  | zero => intro h l0 l1 l2 l3 l4 l5 hq; rw [D_X12_bag_70] at hq; cases hq
  | succ F ih =>
    intro h l0 l1 l2 l3 l4 l5 hq
    rw [D_X12_bag_70] at hq
    refine st_iload (pc := 70) dX12_bag_70 rfl ?_
    refine st_iload_n (pc := 72) dX12_bag_72 rfl ?_
    refine bd_icmp_gt (pc := 73) (tgt := 95) hq dX12_bag_73 (by decide) (fun _ hq => ?_) (fun _ hq => ?_)
    ·
      refine st_aload_n (pc := 95) dX12_bag_95 rfl ?_
      refine st_iload_n (pc := 96) dX12_bag_96 rfl ?_
      refine st_iload_n (pc := 97) dX12_bag_97 rfl ?_
      refine st_iload_n (pc := 98) dX12_bag_98 rfl ?_
      refine st_iload (pc := 99) dX12_bag_99 rfl ?_
      obtain ⟨⟨hbq1, hkq1⟩, hq⟩ := mh_oi hq
      obtain ⟨q1, e1, hq⟩ := mh_ob hq
      refine st_invV (pc := 101) (ci := 12) (vs := [.int l1, .int l2, .int l3, .int l4]) (rest := []) (st2 := [.int q1.1]) dX12_bag_101 okX12_looks (by decide) hkq1 hbq1 wd_1552 wd_1554 wp_74 pdX12_looks rfl rfl rfl rfl (Nat.le_trans (by decide) hd) (Nat.le_of_ble_eq_true rfl) (T_X12_looks (Nat.le_refl _) e1) rfl ?_
      refine bd_if_eq (pc := 104) (tgt := 111) hq dX12_bag_104 (by decide) (fun _ hq => ?_) (fun _ hq => ?_)
      ·
        refine st_iconst (pc := 111) (v := (0 : Int32)) dX12_bag_111 rfl ?_
        exact bd_iret (pc := 112) hq dX12_bag_112 rfl
      ·
        refine st_iconst (pc := 107) (v := (1 : Int32)) dX12_bag_107 rfl ?_
        refine st_goto (pc := 108) (tgt := 112) dX12_bag_108 (by decide) ?_
        exact bd_iret (pc := 112) hq dX12_bag_112 rfl
    ·
      refine st_iload (pc := 76) dX12_bag_76 rfl ?_
      refine st_aload_n (pc := 78) dX12_bag_78 rfl ?_
      refine st_iload_n (pc := 79) dX12_bag_79 rfl ?_
      refine st_iload_n (pc := 80) dX12_bag_80 rfl ?_
      refine st_iload (pc := 81) dX12_bag_81 rfl ?_
      obtain ⟨⟨hbq1, hkq1⟩, hq⟩ := mh_oi hq
      obtain ⟨q1, e1, hq⟩ := mh_ob hq
      refine st_invV (pc := 83) (ci := 12) (vs := [.int l1, .int l2, .int l5]) (rest := [.int l4]) (st2 := [.int q1.1, .int l4]) dX12_bag_83 okX12_outAgo (by decide) hkq1 hbq1 wd_1461 wd_1463 wp_60 pdX12_outAgo rfl rfl rfl rfl (Nat.le_trans (by decide) hd) (Nat.le_of_ble_eq_true rfl) (T_X12_outAgo (Nat.le_refl _) e1) rfl ?_
      refine st_iadd (pc := 86) dX12_bag_86 ?_
      refine st_istore (pc := 87) (lv' := [some (.ref l0), some (.int l1), some (.int l2), some (.int l3), some (.int (l4 + q1.1)), some (.int l5)]) dX12_bag_87 rfl (by decide) rfl ?_
      refine st_iinc (pc := 89) (lv' := [some (.ref l0), some (.int l1), some (.int l2), some (.int l3), some (.int (l4 + q1.1)), some (.int (l5 + Int32.ofInt (1)))]) dX12_bag_89 rfl rfl (by decide) rfl ?_
      refine st_goto (pc := 92) (tgt := 70) dX12_bag_92 (by decide) ?_
      exact ih _ _ _ _ _ _ _ hq
def D_X12_bag (N : Nat) (h : mh_H) (l0 : Nat) (l1 : Int32) (l2 : Int32) (l3 : Int32) : Option (Int32 × mh_H) :=
  kO h 12 l0 <|
  (D_X12_isJoint N h l0 l1).bind fun q1 =>
  if q1.1 = 0 then (D_X12_bag_27 N q1.2 l0)
  else ((D_X12_isColour N q1.2 l2).bind fun q2 =>
  if q2.1 = 0 then (D_X12_bag_27 N q2.2 l0)
  else ((D_X12_in N q2.2 l3.toInt64 (1 : Int64) (24 : Int64)).bind fun q3 =>
  if q3.1 = 0 then (D_X12_bag_27 N q3.2 l0)
  else (kO q3.2 12 l0 <|
  (D_X12_isSpring N q3.2 l0 l1).bind fun q4 =>
  if q4.1 = 0 then (kO q4.2 12 l0 <|
  (D_X12_error N q4.2 l0 (5 : Int32)).bind fun q5 =>
  some (q5.1, q5.2))
  else ((gR q4.2 12 l0 0).bind fun v5 =>
  (aI q4.2 v5 (4 : Int32)).bind fun v6 =>
  if v6 = (60 : Int32) then (kO q4.2 12 l0 <|
  (D_X12_error N q4.2 l0 (4 : Int32)).bind fun q7 =>
  some (q7.1, q7.2))
  else (D_X12_bag_70 N N q4.2 l0 l1 l2 l3 (0 : Int32) (1 : Int32))))))
set_option maxHeartbeats 4000000 in
set_option maxRecDepth 100000 in
theorem T_X12_bag {P : mh_E → Prop} {N d : Nat} (hd : 6 ≤ d) {z : (Int32 × mh_H)} {h : mh_H} {l0 : Nat} {l1 : Int32} {l2 : Int32} {l3 : Int32} (hq : D_X12_bag N h l0 l1 l2 l3 = some z) : mh_go P d mX12_bag 0 [some (.ref l0), some (.int l1), some (.int l2), some (.int l3), none, none] [] h (some (.int z.1)) z.2 := by
  unfold D_X12_bag at hq
  refine st_aload_n (pc := 0) dX12_bag_0 rfl ?_
  refine st_iload_n (pc := 1) dX12_bag_1 rfl ?_
  obtain ⟨⟨hbq1, hkq1⟩, hq⟩ := mh_oi hq
  obtain ⟨q1, e1, hq⟩ := mh_ob hq
  refine st_invV (pc := 2) (ci := 12) (vs := [.int l1]) (rest := []) (st2 := [.int q1.1]) dX12_bag_2 okX12_isJoint (by decide) hkq1 hbq1 wd_1286 wd_1288 wp_38 pdX12_isJoint rfl rfl rfl rfl (Nat.le_trans (by decide) hd) (Nat.le_of_ble_eq_true rfl) (T_X12_isJoint (Nat.le_refl _) e1) rfl ?_
  refine bd_if_eq (pc := 5) (tgt := 27) hq dX12_bag_5 (by decide) (fun _ hq => ?_) (fun _ hq => ?_)
  ·
    refine st_lesS (lv' := [some (.ref l0), none, none, none, none, none]) ⟨Or.inr rfl, Or.inl rfl, Or.inl rfl, Or.inl rfl, Or.inr rfl, Or.inr rfl, trivial⟩ ?_
    exact T_X12_bag_27 hd hq
  ·
    refine st_iload_n (pc := 8) dX12_bag_8 rfl ?_
    obtain ⟨q2, e2, hq⟩ := mh_ob hq
    refine st_invS (pc := 9) (Y := mX12_isColour) (vs := [.int l2]) (rest := []) (st2 := [.int q2.1]) dX12_bag_9 okX12_isColour wd_1358 wd_1359 pdX12_isColour rfl rfl rfl rfl (Nat.le_trans (by decide) hd) (Nat.le_of_ble_eq_true rfl) (T_X12_isColour (Nat.le_refl _) e2) rfl ?_
    refine bd_if_eq (pc := 12) (tgt := 27) hq dX12_bag_12 (by decide) (fun _ hq => ?_) (fun _ hq => ?_)
    ·
      refine st_lesS (lv' := [some (.ref l0), none, none, none, none, none]) ⟨Or.inr rfl, Or.inl rfl, Or.inl rfl, Or.inl rfl, Or.inr rfl, Or.inr rfl, trivial⟩ ?_
      exact T_X12_bag_27 hd hq
    ·
      refine st_iload_n (pc := 15) dX12_bag_15 rfl ?_
      refine st_i2l (pc := 16) dX12_bag_16 ?_
      refine st_lconst (pc := 17) (v := 1) dX12_bag_17 rfl ?_
      refine st_ldc2 (pc := 18) (v := (24 : Int64)) dX12_bag_18 wd_1460 ?_
      obtain ⟨q3, e3, hq⟩ := mh_ob hq
      refine st_invS (pc := 21) (Y := mX12_in) (vs := [.long l3.toInt64, .long (1 : Int64), .long (24 : Int64)]) (rest := []) (st2 := [.int q3.1]) dX12_bag_21 okX12_in wd_1270 wd_1271 pdX12_in rfl rfl rfl rfl (Nat.le_trans (by decide) hd) (Nat.le_of_ble_eq_true rfl) (T_X12_in (Nat.le_refl _) e3) rfl ?_
      refine bd_if_ne (pc := 24) (tgt := 33) hq dX12_bag_24 (by decide) (fun _ hq => ?_) (fun _ hq => ?_)
      ·
        refine st_lesS (lv' := [some (.ref l0), none, none, none, none, none]) ⟨Or.inr rfl, Or.inl rfl, Or.inl rfl, Or.inl rfl, Or.inr rfl, Or.inr rfl, trivial⟩ ?_
        exact T_X12_bag_27 hd hq
      ·
        refine st_aload_n (pc := 33) dX12_bag_33 rfl ?_
        refine st_iload_n (pc := 34) dX12_bag_34 rfl ?_
        obtain ⟨⟨hbq4, hkq4⟩, hq⟩ := mh_oi hq
        obtain ⟨q4, e4, hq⟩ := mh_ob hq
        refine st_invV (pc := 35) (ci := 12) (vs := [.int l1]) (rest := []) (st2 := [.int q4.1]) dX12_bag_35 okX12_isSpring (by decide) hkq4 hbq4 wd_1399 wd_1401 wp_52 pdX12_isSpring rfl rfl rfl rfl (Nat.le_trans (by decide) hd) (Nat.le_of_ble_eq_true rfl) (T_X12_isSpring (Nat.le_refl _) e4) rfl ?_
        refine bd_if_ne (pc := 38) (tgt := 47) hq dX12_bag_38 (by decide) (fun _ hq => ?_) (fun _ hq => ?_)
        ·
          refine st_aload_n (pc := 41) dX12_bag_41 rfl ?_
          refine st_iconst (pc := 42) (v := (5 : Int32)) dX12_bag_42 rfl ?_
          obtain ⟨⟨hbq5, hkq5⟩, hq⟩ := mh_oi hq
          obtain ⟨q5, e5, hq⟩ := mh_ob hq
          refine st_invV (pc := 43) (ci := 12) (vs := [.int (5 : Int32)]) (rest := []) (st2 := [.int q5.1]) dX12_bag_43 okX12_error (by decide) hkq5 hbq5 wd_1274 wd_1276 wp_37 pdX12_error rfl rfl rfl rfl (Nat.le_trans (by decide) hd) (Nat.le_of_ble_eq_true rfl) (T_X12_error (Nat.le_refl _) e5) rfl ?_
          exact bd_iret (pc := 46) hq dX12_bag_46 rfl
        ·
          refine st_aload_n (pc := 47) dX12_bag_47 rfl ?_
          refine bd_getr (pc := 48) hq dX12_bag_48 fl_12_9_12 rfl (fun v5 hq => ?_)
          refine st_iconst (pc := 51) (v := (4 : Int32)) dX12_bag_51 rfl ?_
          refine bd_iald (pc := 52) hq dX12_bag_52 (fun v6 hq => ?_)
          refine st_bipush (pc := 53) (v := (60 : Int32)) dX12_bag_53 (by decide) ?_
          refine bd_icmp_ne (pc := 55) (tgt := 64) hq dX12_bag_55 (by decide) (fun _ hq => ?_) (fun _ hq => ?_)
          ·
            refine st_aload_n (pc := 58) dX12_bag_58 rfl ?_
            refine st_iconst (pc := 59) (v := (4 : Int32)) dX12_bag_59 rfl ?_
            obtain ⟨⟨hbq7, hkq7⟩, hq⟩ := mh_oi hq
            obtain ⟨q7, e7, hq⟩ := mh_ob hq
            refine st_invV (pc := 60) (ci := 12) (vs := [.int (4 : Int32)]) (rest := []) (st2 := [.int q7.1]) dX12_bag_60 okX12_error (by decide) hkq7 hbq7 wd_1274 wd_1276 wp_37 pdX12_error rfl rfl rfl rfl (Nat.le_trans (by decide) hd) (Nat.le_of_ble_eq_true rfl) (T_X12_error (Nat.le_refl _) e7) rfl ?_
            exact bd_iret (pc := 63) hq dX12_bag_63 rfl
          ·
            refine st_iconst (pc := 64) (v := (0 : Int32)) dX12_bag_64 rfl ?_
            refine st_istore (pc := 65) (lv' := [some (.ref l0), some (.int l1), some (.int l2), some (.int l3), some (.int (0 : Int32)), none]) dX12_bag_65 rfl (by decide) rfl ?_
            refine st_iconst (pc := 67) (v := (1 : Int32)) dX12_bag_67 rfl ?_
            refine st_istore (pc := 68) (lv' := [some (.ref l0), some (.int l1), some (.int l2), some (.int l3), some (.int (0 : Int32)), some (.int (1 : Int32))]) dX12_bag_68 rfl (by decide) rfl ?_
            exact T_X12_bag_70 hd N _ _ _ _ _ _ _ hq
-- HoleWaterModel.look(II)I
theorem dX12_look_0 : decode cX12_look 0 = .ok (.aload_n 0, 1) := by decide +kernel
theorem dX12_look_1 : decode cX12_look 1 = .ok (.getfield 9, 3) := by decide +kernel
theorem dX12_look_4 : decode cX12_look 4 = .ok (.sipush 7076, 3) := by decide +kernel
theorem dX12_look_7 : decode cX12_look 7 = .ok (.bipush 8, 2) := by decide +kernel
theorem dX12_look_9 : decode cX12_look 9 = .ok (.iload_n 1, 1) := by decide +kernel
theorem dX12_look_10 : decode cX12_look 10 = .ok (.imul, 1) := by decide +kernel
theorem dX12_look_11 : decode cX12_look 11 = .ok (.iadd, 1) := by decide +kernel
theorem dX12_look_12 : decode cX12_look 12 = .ok (.iload_n 2, 1) := by decide +kernel
theorem dX12_look_13 : decode cX12_look 13 = .ok (.iadd, 1) := by decide +kernel
theorem dX12_look_14 : decode cX12_look 14 = .ok (.iaload, 1) := by decide +kernel
theorem dX12_look_15 : decode cX12_look 15 = .ok (.ireturn, 1) := by decide +kernel
def D_X12_look (N : Nat) (h : mh_H) (l0 : Nat) (l1 : Int32) (l2 : Int32) : Option (Int32 × mh_H) :=
  (gR h 12 l0 0).bind fun v1 =>
  (aI h v1 (((7076 : Int32) + ((8 : Int32) * l1)) + l2)).bind fun v2 =>
  some (v2, h)
set_option maxHeartbeats 4000000 in
set_option maxRecDepth 100000 in
theorem T_X12_look {P : mh_E → Prop} {N d : Nat} (hd : 1 ≤ d) {z : (Int32 × mh_H)} {h : mh_H} {l0 : Nat} {l1 : Int32} {l2 : Int32} (hq : D_X12_look N h l0 l1 l2 = some z) : mh_go P d mX12_look 0 [some (.ref l0), some (.int l1), some (.int l2)] [] h (some (.int z.1)) z.2 := by
  unfold D_X12_look at hq
  refine st_aload_n (pc := 0) dX12_look_0 rfl ?_
  refine bd_getr (pc := 1) hq dX12_look_1 fl_12_9_12 rfl (fun v1 hq => ?_)
  refine st_sipush (pc := 4) (v := (7076 : Int32)) dX12_look_4 (by decide) ?_
  refine st_bipush (pc := 7) (v := (8 : Int32)) dX12_look_7 (by decide) ?_
  refine st_iload_n (pc := 9) dX12_look_9 rfl ?_
  refine st_imul (pc := 10) dX12_look_10 ?_
  refine st_iadd (pc := 11) dX12_look_11 ?_
  refine st_iload_n (pc := 12) dX12_look_12 rfl ?_
  refine st_iadd (pc := 13) dX12_look_13 ?_
  refine bd_iald (pc := 14) hq dX12_look_14 (fun v2 hq => ?_)
  exact bd_iret (pc := 15) hq dX12_look_15 rfl
-- HoleWaterModel.lookIs(II)I
theorem dX12_lookIs_39 : decode cX12_lookIs 39 = .ok (.aload_n 0, 1) := by decide +kernel
theorem dX12_lookIs_40 : decode cX12_lookIs 40 = .ok (.iconst 1, 1) := by decide +kernel
theorem dX12_lookIs_41 : decode cX12_lookIs 41 = .ok (.invokevirtual 80, 3) := by decide +kernel
theorem dX12_lookIs_44 : decode cX12_lookIs 44 = .ok (.ireturn, 1) := by decide +kernel
theorem dX12_lookIs_0 : decode cX12_lookIs 0 = .ok (.iload_n 1, 1) := by decide +kernel
theorem dX12_lookIs_1 : decode cX12_lookIs 1 = .ok (.i2l, 1) := by decide +kernel
theorem dX12_lookIs_2 : decode cX12_lookIs 2 = .ok (.lconst 0, 1) := by decide +kernel
theorem dX12_lookIs_3 : decode cX12_lookIs 3 = .ok (.aload_n 0, 1) := by decide +kernel
theorem dX12_lookIs_4 : decode cX12_lookIs 4 = .ok (.getfield 9, 3) := by decide +kernel
theorem dX12_lookIs_7 : decode cX12_lookIs 7 = .ok (.iconst 4, 1) := by decide +kernel
theorem dX12_lookIs_8 : decode cX12_lookIs 8 = .ok (.iaload, 1) := by decide +kernel
theorem dX12_lookIs_9 : decode cX12_lookIs 9 = .ok (.iconst 1, 1) := by decide +kernel
theorem dX12_lookIs_10 : decode cX12_lookIs 10 = .ok (.isub, 1) := by decide +kernel
theorem dX12_lookIs_11 : decode cX12_lookIs 11 = .ok (.i2l, 1) := by decide +kernel
theorem dX12_lookIs_12 : decode cX12_lookIs 12 = .ok (.invokestatic 65, 3) := by decide +kernel
theorem dX12_lookIs_15 : decode cX12_lookIs 15 = .ok (.ifCond .eq 24, 3) := by decide +kernel
theorem dX12_lookIs_18 : decode cX12_lookIs 18 = .ok (.iload_n 2, 1) := by decide +kernel
theorem dX12_lookIs_19 : decode cX12_lookIs 19 = .ok (.i2l, 1) := by decide +kernel
theorem dX12_lookIs_20 : decode cX12_lookIs 20 = .ok (.lconst 0, 1) := by decide +kernel
theorem dX12_lookIs_21 : decode cX12_lookIs 21 = .ok (.ldc2_w 89, 3) := by decide +kernel
theorem dX12_lookIs_24 : decode cX12_lookIs 24 = .ok (.invokestatic 65, 3) := by decide +kernel
theorem dX12_lookIs_27 : decode cX12_lookIs 27 = .ok (.ifCond .eq 12, 3) := by decide +kernel
theorem dX12_lookIs_30 : decode cX12_lookIs 30 = .ok (.aload_n 0, 1) := by decide +kernel
theorem dX12_lookIs_31 : decode cX12_lookIs 31 = .ok (.iload_n 1, 1) := by decide +kernel
theorem dX12_lookIs_32 : decode cX12_lookIs 32 = .ok (.iload_n 2, 1) := by decide +kernel
theorem dX12_lookIs_33 : decode cX12_lookIs 33 = .ok (.invokevirtual 269, 3) := by decide +kernel
theorem dX12_lookIs_36 : decode cX12_lookIs 36 = .ok (.goto 8, 3) := by decide +kernel
def D_X12_lookIs_39 (N : Nat) (h : mh_H) (l0 : Nat) : Option (Int32 × mh_H) :=
  kO h 12 l0 <|
  (D_X12_error N h l0 (1 : Int32)).bind fun q1 =>
  some (q1.1, q1.2)
set_option maxHeartbeats 4000000 in
set_option maxRecDepth 100000 in
theorem T_X12_lookIs_39 {P : mh_E → Prop} {N d : Nat} (hd : 2 ≤ d) {z : (Int32 × mh_H)} {h : mh_H} {l0 : Nat} (hq : D_X12_lookIs_39 N h l0 = some z) : mh_go P d mX12_lookIs 39 [some (.ref l0), none, none] [] h (some (.int z.1)) z.2 := by
  unfold D_X12_lookIs_39 at hq
  refine st_aload_n (pc := 39) dX12_lookIs_39 rfl ?_
  refine st_iconst (pc := 40) (v := (1 : Int32)) dX12_lookIs_40 rfl ?_
  obtain ⟨⟨hbq1, hkq1⟩, hq⟩ := mh_oi hq
  obtain ⟨q1, e1, hq⟩ := mh_ob hq
  refine st_invV (pc := 41) (ci := 12) (vs := [.int (1 : Int32)]) (rest := []) (st2 := [.int q1.1]) dX12_lookIs_41 okX12_error (by decide) hkq1 hbq1 wd_1274 wd_1276 wp_37 pdX12_error rfl rfl rfl rfl (Nat.le_trans (by decide) hd) (Nat.le_of_ble_eq_true rfl) (T_X12_error (Nat.le_refl _) e1) rfl ?_
  exact bd_iret (pc := 44) hq dX12_lookIs_44 rfl
def D_X12_lookIs (N : Nat) (h : mh_H) (l0 : Nat) (l1 : Int32) (l2 : Int32) : Option (Int32 × mh_H) :=
  (gR h 12 l0 0).bind fun v1 =>
  (aI h v1 (4 : Int32)).bind fun v2 =>
  (D_X12_in N h l1.toInt64 (0 : Int64) ((v2 - (1 : Int32)).toInt64)).bind fun q3 =>
  if q3.1 = 0 then (D_X12_lookIs_39 N q3.2 l0)
  else ((D_X12_in N q3.2 l2.toInt64 (0 : Int64) (5 : Int64)).bind fun q4 =>
  if q4.1 = 0 then (D_X12_lookIs_39 N q4.2 l0)
  else (kO q4.2 12 l0 <|
  (D_X12_look N q4.2 l0 l1 l2).bind fun q5 =>
  some (q5.1, q5.2)))
set_option maxHeartbeats 4000000 in
set_option maxRecDepth 100000 in
theorem T_X12_lookIs {P : mh_E → Prop} {N d : Nat} (hd : 2 ≤ d) {z : (Int32 × mh_H)} {h : mh_H} {l0 : Nat} {l1 : Int32} {l2 : Int32} (hq : D_X12_lookIs N h l0 l1 l2 = some z) : mh_go P d mX12_lookIs 0 [some (.ref l0), some (.int l1), some (.int l2)] [] h (some (.int z.1)) z.2 := by
  unfold D_X12_lookIs at hq
  refine st_iload_n (pc := 0) dX12_lookIs_0 rfl ?_
  refine st_i2l (pc := 1) dX12_lookIs_1 ?_
  refine st_lconst (pc := 2) (v := 0) dX12_lookIs_2 rfl ?_
  refine st_aload_n (pc := 3) dX12_lookIs_3 rfl ?_
  refine bd_getr (pc := 4) hq dX12_lookIs_4 fl_12_9_12 rfl (fun v1 hq => ?_)
  refine st_iconst (pc := 7) (v := (4 : Int32)) dX12_lookIs_7 rfl ?_
  refine bd_iald (pc := 8) hq dX12_lookIs_8 (fun v2 hq => ?_)
  refine st_iconst (pc := 9) (v := (1 : Int32)) dX12_lookIs_9 rfl ?_
  refine st_isub (pc := 10) dX12_lookIs_10 ?_
  refine st_i2l (pc := 11) dX12_lookIs_11 ?_
  obtain ⟨q3, e3, hq⟩ := mh_ob hq
  refine st_invS (pc := 12) (Y := mX12_in) (vs := [.long l1.toInt64, .long (0 : Int64), .long ((v2 - (1 : Int32)).toInt64)]) (rest := []) (st2 := [.int q3.1]) dX12_lookIs_12 okX12_in wd_1270 wd_1271 pdX12_in rfl rfl rfl rfl (Nat.le_trans (by decide) hd) (Nat.le_of_ble_eq_true rfl) (T_X12_in (Nat.le_refl _) e3) rfl ?_
  refine bd_if_eq (pc := 15) (tgt := 39) hq dX12_lookIs_15 (by decide) (fun _ hq => ?_) (fun _ hq => ?_)
  ·
    refine st_lesS (lv' := [some (.ref l0), none, none]) ⟨Or.inr rfl, Or.inl rfl, Or.inl rfl, trivial⟩ ?_
    exact T_X12_lookIs_39 hd hq
  ·
    refine st_iload_n (pc := 18) dX12_lookIs_18 rfl ?_
    refine st_i2l (pc := 19) dX12_lookIs_19 ?_
    refine st_lconst (pc := 20) (v := 0) dX12_lookIs_20 rfl ?_
    refine st_ldc2 (pc := 21) (v := (5 : Int64)) dX12_lookIs_21 wd_1295 ?_
    obtain ⟨q4, e4, hq⟩ := mh_ob hq
    refine st_invS (pc := 24) (Y := mX12_in) (vs := [.long l2.toInt64, .long (0 : Int64), .long (5 : Int64)]) (rest := []) (st2 := [.int q4.1]) dX12_lookIs_24 okX12_in wd_1270 wd_1271 pdX12_in rfl rfl rfl rfl (Nat.le_trans (by decide) hd) (Nat.le_of_ble_eq_true rfl) (T_X12_in (Nat.le_refl _) e4) rfl ?_
    refine bd_if_eq (pc := 27) (tgt := 39) hq dX12_lookIs_27 (by decide) (fun _ hq => ?_) (fun _ hq => ?_)
    ·
      refine st_lesS (lv' := [some (.ref l0), none, none]) ⟨Or.inr rfl, Or.inl rfl, Or.inl rfl, trivial⟩ ?_
      exact T_X12_lookIs_39 hd hq
    ·
      refine st_aload_n (pc := 30) dX12_lookIs_30 rfl ?_
      refine st_iload_n (pc := 31) dX12_lookIs_31 rfl ?_
      refine st_iload_n (pc := 32) dX12_lookIs_32 rfl ?_
      obtain ⟨⟨hbq5, hkq5⟩, hq⟩ := mh_oi hq
      obtain ⟨q5, e5, hq⟩ := mh_ob hq
      refine st_invV (pc := 33) (ci := 12) (vs := [.int l1, .int l2]) (rest := []) (st2 := [.int q5.1]) dX12_lookIs_33 okX12_look (by decide) hkq5 hbq5 wd_1564 wd_1566 wp_75 pdX12_look rfl rfl rfl rfl (Nat.le_trans (by decide) hd) (Nat.le_of_ble_eq_true rfl) (T_X12_look (Nat.le_refl _) e5) rfl ?_
      refine st_goto (pc := 36) (tgt := 44) dX12_lookIs_36 (by decide) ?_
      exact bd_iret (pc := 44) hq dX12_lookIs_44 rfl
-- HoleWaterModel.wasPut(IIZ)Z
theorem dX12_wasPut_76 : decode cX12_wasPut 76 = .ok (.istore 4, 2) := by decide +kernel
theorem dX12_wasPut_78 : decode cX12_wasPut 78 = .ok (.iinc 5 1, 3) := by decide +kernel
theorem dX12_wasPut_81 : decode cX12_wasPut 81 = .ok (.goto (-75), 3) := by decide +kernel
theorem dX12_wasPut_71 : decode cX12_wasPut 71 = .ok (.iconst 1, 1) := by decide +kernel
theorem dX12_wasPut_72 : decode cX12_wasPut 72 = .ok (.goto 4, 3) := by decide +kernel
theorem dX12_wasPut_75 : decode cX12_wasPut 75 = .ok (.iconst 0, 1) := by decide +kernel
theorem dX12_wasPut_67 : decode cX12_wasPut 67 = .ok (.iload_n 3, 1) := by decide +kernel
theorem dX12_wasPut_68 : decode cX12_wasPut 68 = .ok (.if_icmp .eq 7, 3) := by decide +kernel
theorem dX12_wasPut_6 : decode cX12_wasPut 6 = .ok (.iload 5, 2) := by decide +kernel
theorem dX12_wasPut_8 : decode cX12_wasPut 8 = .ok (.aload_n 0, 1) := by decide +kernel
theorem dX12_wasPut_9 : decode cX12_wasPut 9 = .ok (.iload_n 1, 1) := by decide +kernel
theorem dX12_wasPut_10 : decode cX12_wasPut 10 = .ok (.bipush 6, 2) := by decide +kernel
theorem dX12_wasPut_12 : decode cX12_wasPut 12 = .ok (.invokevirtual 269, 3) := by decide +kernel
theorem dX12_wasPut_15 : decode cX12_wasPut 15 = .ok (.if_icmp .ge 69, 3) := by decide +kernel
theorem dX12_wasPut_84 : decode cX12_wasPut 84 = .ok (.iload 4, 2) := by decide +kernel
theorem dX12_wasPut_86 : decode cX12_wasPut 86 = .ok (.ireturn, 1) := by decide +kernel
theorem dX12_wasPut_18 : decode cX12_wasPut 18 = .ok (.sipush 6916, 3) := by decide +kernel
theorem dX12_wasPut_21 : decode cX12_wasPut 21 = .ok (.iconst 4, 1) := by decide +kernel
theorem dX12_wasPut_22 : decode cX12_wasPut 22 = .ok (.iload 5, 2) := by decide +kernel
theorem dX12_wasPut_24 : decode cX12_wasPut 24 = .ok (.imul, 1) := by decide +kernel
theorem dX12_wasPut_25 : decode cX12_wasPut 25 = .ok (.iadd, 1) := by decide +kernel
theorem dX12_wasPut_26 : decode cX12_wasPut 26 = .ok (.istore 6, 2) := by decide +kernel
theorem dX12_wasPut_28 : decode cX12_wasPut 28 = .ok (.iload 4, 2) := by decide +kernel
theorem dX12_wasPut_30 : decode cX12_wasPut 30 = .ok (.ifCond .ne 41, 3) := by decide +kernel
theorem dX12_wasPut_33 : decode cX12_wasPut 33 = .ok (.aload_n 0, 1) := by decide +kernel
theorem dX12_wasPut_34 : decode cX12_wasPut 34 = .ok (.getfield 9, 3) := by decide +kernel
theorem dX12_wasPut_37 : decode cX12_wasPut 37 = .ok (.iload 6, 2) := by decide +kernel
theorem dX12_wasPut_39 : decode cX12_wasPut 39 = .ok (.iconst 1, 1) := by decide +kernel
theorem dX12_wasPut_40 : decode cX12_wasPut 40 = .ok (.iadd, 1) := by decide +kernel
theorem dX12_wasPut_41 : decode cX12_wasPut 41 = .ok (.iaload, 1) := by decide +kernel
theorem dX12_wasPut_42 : decode cX12_wasPut 42 = .ok (.aload_n 0, 1) := by decide +kernel
theorem dX12_wasPut_43 : decode cX12_wasPut 43 = .ok (.iload_n 1, 1) := by decide +kernel
theorem dX12_wasPut_44 : decode cX12_wasPut 44 = .ok (.iconst 1, 1) := by decide +kernel
theorem dX12_wasPut_45 : decode cX12_wasPut 45 = .ok (.invokevirtual 269, 3) := by decide +kernel
theorem dX12_wasPut_48 : decode cX12_wasPut 48 = .ok (.if_icmp .ne 27, 3) := by decide +kernel
theorem dX12_wasPut_51 : decode cX12_wasPut 51 = .ok (.aload_n 0, 1) := by decide +kernel
theorem dX12_wasPut_52 : decode cX12_wasPut 52 = .ok (.getfield 9, 3) := by decide +kernel
theorem dX12_wasPut_55 : decode cX12_wasPut 55 = .ok (.iload 6, 2) := by decide +kernel
theorem dX12_wasPut_57 : decode cX12_wasPut 57 = .ok (.iaload, 1) := by decide +kernel
theorem dX12_wasPut_58 : decode cX12_wasPut 58 = .ok (.iload_n 2, 1) := by decide +kernel
theorem dX12_wasPut_59 : decode cX12_wasPut 59 = .ok (.if_icmp .ne 7, 3) := by decide +kernel
theorem dX12_wasPut_62 : decode cX12_wasPut 62 = .ok (.iconst 1, 1) := by decide +kernel
theorem dX12_wasPut_63 : decode cX12_wasPut 63 = .ok (.goto 4, 3) := by decide +kernel
theorem dX12_wasPut_66 : decode cX12_wasPut 66 = .ok (.iconst 0, 1) := by decide +kernel
theorem dX12_wasPut_0 : decode cX12_wasPut 0 = .ok (.iconst 0, 1) := by decide +kernel
theorem dX12_wasPut_1 : decode cX12_wasPut 1 = .ok (.istore 4, 2) := by decide +kernel
theorem dX12_wasPut_3 : decode cX12_wasPut 3 = .ok (.iconst 0, 1) := by decide +kernel
theorem dX12_wasPut_4 : decode cX12_wasPut 4 = .ok (.istore 5, 2) := by decide +kernel
def D_X12_wasPut_76 (N : Nat) (k6 : mh_H → Nat → Int32 → Int32 → Int32 → Int32 → Int32 → Option (Int32 × mh_H)) (h : mh_H) (l0 : Nat) (l1 : Int32) (l2 : Int32) (l3 : Int32) (l5 : Int32) (s0 : Int32) : Option (Int32 × mh_H) :=
  k6 h l0 l1 l2 l3 s0 (l5 + Int32.ofInt (1))
set_option maxHeartbeats 4000000 in
set_option maxRecDepth 100000 in
theorem T_X12_wasPut_76 {P : mh_E → Prop} {N d : Nat} (hd : 2 ≤ d) {z : (Int32 × mh_H)} {k6 : mh_H → Nat → Int32 → Int32 → Int32 → Int32 → Int32 → Option (Int32 × mh_H)} (hk6 : ∀ (h : mh_H) (l0 : Nat) (l1 : Int32) (l2 : Int32) (l3 : Int32) (l4 : Int32) (l5 : Int32), k6 h l0 l1 l2 l3 l4 l5 = some z → mh_go P d mX12_wasPut 6 [some (.ref l0), some (.int l1), some (.int l2), some (.int l3), some (.int l4), some (.int l5), none] [] h (some (.int z.1)) z.2) {h : mh_H} {l0 : Nat} {l1 : Int32} {l2 : Int32} {l3 : Int32} {l5 : Int32} {s0 : Int32} (hq : D_X12_wasPut_76 N k6 h l0 l1 l2 l3 l5 s0 = some z) : mh_go P d mX12_wasPut 76 [some (.ref l0), some (.int l1), some (.int l2), some (.int l3), none, some (.int l5), none] [.int s0] h (some (.int z.1)) z.2 := by
  unfold D_X12_wasPut_76 at hq
  refine st_istore (pc := 76) (lv' := [some (.ref l0), some (.int l1), some (.int l2), some (.int l3), some (.int s0), some (.int l5), none]) dX12_wasPut_76 rfl (by decide) rfl ?_
  refine st_iinc (pc := 78) (lv' := [some (.ref l0), some (.int l1), some (.int l2), some (.int l3), some (.int s0), some (.int (l5 + Int32.ofInt (1))), none]) dX12_wasPut_78 rfl rfl (by decide) rfl ?_
  refine st_goto (pc := 81) (tgt := 6) dX12_wasPut_81 (by decide) ?_
  exact hk6 _ _ _ _ _ _ _ hq
def D_X12_wasPut_71 (N : Nat) (k6 : mh_H → Nat → Int32 → Int32 → Int32 → Int32 → Int32 → Option (Int32 × mh_H)) (h : mh_H) (l0 : Nat) (l1 : Int32) (l2 : Int32) (l3 : Int32) (l5 : Int32) : Option (Int32 × mh_H) :=
  D_X12_wasPut_76 N k6 h l0 l1 l2 l3 l5 (1 : Int32)
set_option maxHeartbeats 4000000 in
set_option maxRecDepth 100000 in
theorem T_X12_wasPut_71 {P : mh_E → Prop} {N d : Nat} (hd : 2 ≤ d) {z : (Int32 × mh_H)} {k6 : mh_H → Nat → Int32 → Int32 → Int32 → Int32 → Int32 → Option (Int32 × mh_H)} (hk6 : ∀ (h : mh_H) (l0 : Nat) (l1 : Int32) (l2 : Int32) (l3 : Int32) (l4 : Int32) (l5 : Int32), k6 h l0 l1 l2 l3 l4 l5 = some z → mh_go P d mX12_wasPut 6 [some (.ref l0), some (.int l1), some (.int l2), some (.int l3), some (.int l4), some (.int l5), none] [] h (some (.int z.1)) z.2) {h : mh_H} {l0 : Nat} {l1 : Int32} {l2 : Int32} {l3 : Int32} {l5 : Int32} (hq : D_X12_wasPut_71 N k6 h l0 l1 l2 l3 l5 = some z) : mh_go P d mX12_wasPut 71 [some (.ref l0), some (.int l1), some (.int l2), some (.int l3), none, some (.int l5), none] [] h (some (.int z.1)) z.2 := by
  unfold D_X12_wasPut_71 at hq
  refine st_iconst (pc := 71) (v := (1 : Int32)) dX12_wasPut_71 rfl ?_
  refine st_goto (pc := 72) (tgt := 76) dX12_wasPut_72 (by decide) ?_
  exact T_X12_wasPut_76 hd hk6 hq
def D_X12_wasPut_75 (N : Nat) (k6 : mh_H → Nat → Int32 → Int32 → Int32 → Int32 → Int32 → Option (Int32 × mh_H)) (h : mh_H) (l0 : Nat) (l1 : Int32) (l2 : Int32) (l3 : Int32) (l5 : Int32) : Option (Int32 × mh_H) :=
  D_X12_wasPut_76 N k6 h l0 l1 l2 l3 l5 (0 : Int32)
set_option maxHeartbeats 4000000 in
set_option maxRecDepth 100000 in
theorem T_X12_wasPut_75 {P : mh_E → Prop} {N d : Nat} (hd : 2 ≤ d) {z : (Int32 × mh_H)} {k6 : mh_H → Nat → Int32 → Int32 → Int32 → Int32 → Int32 → Option (Int32 × mh_H)} (hk6 : ∀ (h : mh_H) (l0 : Nat) (l1 : Int32) (l2 : Int32) (l3 : Int32) (l4 : Int32) (l5 : Int32), k6 h l0 l1 l2 l3 l4 l5 = some z → mh_go P d mX12_wasPut 6 [some (.ref l0), some (.int l1), some (.int l2), some (.int l3), some (.int l4), some (.int l5), none] [] h (some (.int z.1)) z.2) {h : mh_H} {l0 : Nat} {l1 : Int32} {l2 : Int32} {l3 : Int32} {l5 : Int32} (hq : D_X12_wasPut_75 N k6 h l0 l1 l2 l3 l5 = some z) : mh_go P d mX12_wasPut 75 [some (.ref l0), some (.int l1), some (.int l2), some (.int l3), none, some (.int l5), none] [] h (some (.int z.1)) z.2 := by
  unfold D_X12_wasPut_75 at hq
  refine st_iconst (pc := 75) (v := (0 : Int32)) dX12_wasPut_75 rfl ?_
  exact T_X12_wasPut_76 hd hk6 hq
def D_X12_wasPut_67 (N : Nat) (k6 : mh_H → Nat → Int32 → Int32 → Int32 → Int32 → Int32 → Option (Int32 × mh_H)) (h : mh_H) (l0 : Nat) (l1 : Int32) (l2 : Int32) (l3 : Int32) (l5 : Int32) (s0 : Int32) : Option (Int32 × mh_H) :=
  if s0 = l3 then (D_X12_wasPut_75 N k6 h l0 l1 l2 l3 l5)
  else (D_X12_wasPut_71 N k6 h l0 l1 l2 l3 l5)
set_option maxHeartbeats 4000000 in
set_option maxRecDepth 100000 in
theorem T_X12_wasPut_67 {P : mh_E → Prop} {N d : Nat} (hd : 2 ≤ d) {z : (Int32 × mh_H)} {k6 : mh_H → Nat → Int32 → Int32 → Int32 → Int32 → Int32 → Option (Int32 × mh_H)} (hk6 : ∀ (h : mh_H) (l0 : Nat) (l1 : Int32) (l2 : Int32) (l3 : Int32) (l4 : Int32) (l5 : Int32), k6 h l0 l1 l2 l3 l4 l5 = some z → mh_go P d mX12_wasPut 6 [some (.ref l0), some (.int l1), some (.int l2), some (.int l3), some (.int l4), some (.int l5), none] [] h (some (.int z.1)) z.2) {h : mh_H} {l0 : Nat} {l1 : Int32} {l2 : Int32} {l3 : Int32} {l5 : Int32} {s0 : Int32} (hq : D_X12_wasPut_67 N k6 h l0 l1 l2 l3 l5 s0 = some z) : mh_go P d mX12_wasPut 67 [some (.ref l0), some (.int l1), some (.int l2), some (.int l3), none, some (.int l5), none] [.int s0] h (some (.int z.1)) z.2 := by
  unfold D_X12_wasPut_67 at hq
  refine st_iload_n (pc := 67) dX12_wasPut_67 rfl ?_
  refine bd_icmp_eq (pc := 68) (tgt := 75) hq dX12_wasPut_68 (by decide) (fun _ hq => ?_) (fun _ hq => ?_)
  ·
    exact T_X12_wasPut_75 hd hk6 hq
  ·
    exact T_X12_wasPut_71 hd hk6 hq
def D_X12_wasPut_6 (N : Nat) : Nat → mh_H → Nat → Int32 → Int32 → Int32 → Int32 → Int32 → Option (Int32 × mh_H)
  | 0, _, _, _, _, _, _, _ => none
  | F + 1, h, l0, l1, l2, l3, l4, l5 =>
    kO h 12 l0 <|
    (D_X12_look N h l0 l1 (6 : Int32)).bind fun q1 =>
    if q1.1 ≤ l5 then (zB l4 q1.2)
    else (if l4 = 0 then ((gR q1.2 12 l0 0).bind fun v2 =>
    (aI q1.2 v2 (((6916 : Int32) + ((4 : Int32) * l5)) + (1 : Int32))).bind fun v3 =>
    kO q1.2 12 l0 <|
    (D_X12_look N q1.2 l0 l1 (1 : Int32)).bind fun q4 =>
    if v3 = q4.1 then ((gR q4.2 12 l0 0).bind fun v5 =>
    (aI q4.2 v5 ((6916 : Int32) + ((4 : Int32) * l5))).bind fun v6 =>
    if v6 = l2 then (D_X12_wasPut_67 N (D_X12_wasPut_6 N F) q4.2 l0 l1 l2 l3 l5 (1 : Int32))
    else (D_X12_wasPut_67 N (D_X12_wasPut_6 N F) q4.2 l0 l1 l2 l3 l5 (0 : Int32)))
    else (D_X12_wasPut_75 N (D_X12_wasPut_6 N F) q4.2 l0 l1 l2 l3 l5))
    else (D_X12_wasPut_71 N (D_X12_wasPut_6 N F) q1.2 l0 l1 l2 l3 l5))
set_option maxHeartbeats 4000000 in
set_option maxRecDepth 100000 in
theorem T_X12_wasPut_6 {P : mh_E → Prop} {N d : Nat} (hd : 2 ≤ d) {z : (Int32 × mh_H)} : ∀ (F : Nat) (h : mh_H) (l0 : Nat) (l1 : Int32) (l2 : Int32) (l3 : Int32) (l4 : Int32) (l5 : Int32), D_X12_wasPut_6 N F h l0 l1 l2 l3 l4 l5 = some z → mh_go P d mX12_wasPut 6 [some (.ref l0), some (.int l1), some (.int l2), some (.int l3), some (.int l4), some (.int l5), none] [] h (some (.int z.1)) z.2 := by
  intro F
  induction F with
  | zero => intro h l0 l1 l2 l3 l4 l5 hq; rw [D_X12_wasPut_6] at hq; cases hq
  | succ F ih =>
    intro h l0 l1 l2 l3 l4 l5 hq
    rw [D_X12_wasPut_6] at hq
    refine st_iload (pc := 6) dX12_wasPut_6 rfl ?_
    refine st_aload_n (pc := 8) dX12_wasPut_8 rfl ?_
    refine st_iload_n (pc := 9) dX12_wasPut_9 rfl ?_
    refine st_bipush (pc := 10) (v := (6 : Int32)) dX12_wasPut_10 (by decide) ?_
    obtain ⟨⟨hbq1, hkq1⟩, hq⟩ := mh_oi hq
    obtain ⟨q1, e1, hq⟩ := mh_ob hq
    refine st_invV (pc := 12) (ci := 12) (vs := [.int l1, .int (6 : Int32)]) (rest := [.int l5]) (st2 := [.int q1.1, .int l5]) dX12_wasPut_12 okX12_look (by decide) hkq1 hbq1 wd_1564 wd_1566 wp_75 pdX12_look rfl rfl rfl rfl (Nat.le_trans (by decide) hd) (Nat.le_of_ble_eq_true rfl) (T_X12_look (Nat.le_refl _) e1) rfl ?_
    refine bd_icmp_ge (pc := 15) (tgt := 84) hq dX12_wasPut_15 (by decide) (fun _ hq => ?_) (fun _ hq => ?_)
    ·
      refine st_iload (pc := 84) dX12_wasPut_84 rfl ?_
      exact bd_zret (pc := 86) hq dX12_wasPut_86 rfl
    ·
      refine st_sipush (pc := 18) (v := (6916 : Int32)) dX12_wasPut_18 (by decide) ?_
      refine st_iconst (pc := 21) (v := (4 : Int32)) dX12_wasPut_21 rfl ?_
      refine st_iload (pc := 22) dX12_wasPut_22 rfl ?_
      refine st_imul (pc := 24) dX12_wasPut_24 ?_
      refine st_iadd (pc := 25) dX12_wasPut_25 ?_
      refine st_istore (pc := 26) (lv' := [some (.ref l0), some (.int l1), some (.int l2), some (.int l3), some (.int l4), some (.int l5), some (.int ((6916 : Int32) + ((4 : Int32) * l5)))]) dX12_wasPut_26 rfl (by decide) rfl ?_
      refine st_iload (pc := 28) dX12_wasPut_28 rfl ?_
      refine bd_if_ne (pc := 30) (tgt := 71) hq dX12_wasPut_30 (by decide) (fun _ hq => ?_) (fun _ hq => ?_)
      ·
        refine st_aload_n (pc := 33) dX12_wasPut_33 rfl ?_
        refine bd_getr (pc := 34) hq dX12_wasPut_34 fl_12_9_12 rfl (fun v2 hq => ?_)
        refine st_iload (pc := 37) dX12_wasPut_37 rfl ?_
        refine st_iconst (pc := 39) (v := (1 : Int32)) dX12_wasPut_39 rfl ?_
        refine st_iadd (pc := 40) dX12_wasPut_40 ?_
        refine bd_iald (pc := 41) hq dX12_wasPut_41 (fun v3 hq => ?_)
        refine st_aload_n (pc := 42) dX12_wasPut_42 rfl ?_
        refine st_iload_n (pc := 43) dX12_wasPut_43 rfl ?_
        refine st_iconst (pc := 44) (v := (1 : Int32)) dX12_wasPut_44 rfl ?_
        obtain ⟨⟨hbq4, hkq4⟩, hq⟩ := mh_oi hq
        obtain ⟨q4, e4, hq⟩ := mh_ob hq
        refine st_invV (pc := 45) (ci := 12) (vs := [.int l1, .int (1 : Int32)]) (rest := [.int v3]) (st2 := [.int q4.1, .int v3]) dX12_wasPut_45 okX12_look (by decide) hkq4 hbq4 wd_1564 wd_1566 wp_75 pdX12_look rfl rfl rfl rfl (Nat.le_trans (by decide) hd) (Nat.le_of_ble_eq_true rfl) (T_X12_look (Nat.le_refl _) e4) rfl ?_
        refine bd_icmp_ne (pc := 48) (tgt := 75) hq dX12_wasPut_48 (by decide) (fun _ hq => ?_) (fun _ hq => ?_)
        ·
          refine st_aload_n (pc := 51) dX12_wasPut_51 rfl ?_
          refine bd_getr (pc := 52) hq dX12_wasPut_52 fl_12_9_12 rfl (fun v5 hq => ?_)
          refine st_iload (pc := 55) dX12_wasPut_55 rfl ?_
          refine bd_iald (pc := 57) hq dX12_wasPut_57 (fun v6 hq => ?_)
          refine st_iload_n (pc := 58) dX12_wasPut_58 rfl ?_
          refine bd_icmp_ne (pc := 59) (tgt := 66) hq dX12_wasPut_59 (by decide) (fun _ hq => ?_) (fun _ hq => ?_)
          ·
            refine st_iconst (pc := 62) (v := (1 : Int32)) dX12_wasPut_62 rfl ?_
            refine st_goto (pc := 63) (tgt := 67) dX12_wasPut_63 (by decide) ?_
            refine st_lesS (lv' := [some (.ref l0), some (.int l1), some (.int l2), some (.int l3), none, some (.int l5), none]) ⟨Or.inr rfl, Or.inr rfl, Or.inr rfl, Or.inr rfl, Or.inl rfl, Or.inr rfl, Or.inl rfl, trivial⟩ ?_
            exact T_X12_wasPut_67 hd ih hq
          ·
            refine st_iconst (pc := 66) (v := (0 : Int32)) dX12_wasPut_66 rfl ?_
            refine st_lesS (lv' := [some (.ref l0), some (.int l1), some (.int l2), some (.int l3), none, some (.int l5), none]) ⟨Or.inr rfl, Or.inr rfl, Or.inr rfl, Or.inr rfl, Or.inl rfl, Or.inr rfl, Or.inl rfl, trivial⟩ ?_
            exact T_X12_wasPut_67 hd ih hq
        ·
          refine st_lesS (lv' := [some (.ref l0), some (.int l1), some (.int l2), some (.int l3), none, some (.int l5), none]) ⟨Or.inr rfl, Or.inr rfl, Or.inr rfl, Or.inr rfl, Or.inl rfl, Or.inr rfl, Or.inl rfl, trivial⟩ ?_
          exact T_X12_wasPut_75 hd ih hq
      ·
        refine st_lesS (lv' := [some (.ref l0), some (.int l1), some (.int l2), some (.int l3), none, some (.int l5), none]) ⟨Or.inr rfl, Or.inr rfl, Or.inr rfl, Or.inr rfl, Or.inl rfl, Or.inr rfl, Or.inl rfl, trivial⟩ ?_
        exact T_X12_wasPut_71 hd ih hq
def D_X12_wasPut (N : Nat) (h : mh_H) (l0 : Nat) (l1 : Int32) (l2 : Int32) (l3 : Int32) : Option (Int32 × mh_H) :=
  D_X12_wasPut_6 N N h l0 l1 l2 l3 (0 : Int32) (0 : Int32)
set_option maxHeartbeats 4000000 in
set_option maxRecDepth 100000 in
theorem T_X12_wasPut {P : mh_E → Prop} {N d : Nat} (hd : 2 ≤ d) {z : (Int32 × mh_H)} {h : mh_H} {l0 : Nat} {l1 : Int32} {l2 : Int32} {l3 : Int32} (hq : D_X12_wasPut N h l0 l1 l2 l3 = some z) : mh_go P d mX12_wasPut 0 [some (.ref l0), some (.int l1), some (.int l2), some (.int l3), none, none, none] [] h (some (.int z.1)) z.2 := by
  unfold D_X12_wasPut at hq
  refine st_iconst (pc := 0) (v := (0 : Int32)) dX12_wasPut_0 rfl ?_
  refine st_istore (pc := 1) (lv' := [some (.ref l0), some (.int l1), some (.int l2), some (.int l3), some (.int (0 : Int32)), none, none]) dX12_wasPut_1 rfl (by decide) rfl ?_
  refine st_iconst (pc := 3) (v := (0 : Int32)) dX12_wasPut_3 rfl ?_
  refine st_istore (pc := 4) (lv' := [some (.ref l0), some (.int l1), some (.int l2), some (.int l3), some (.int (0 : Int32)), some (.int (0 : Int32)), none]) dX12_wasPut_4 rfl (by decide) rfl ?_
  exact T_X12_wasPut_6 hd N _ _ _ _ _ _ _ hq
