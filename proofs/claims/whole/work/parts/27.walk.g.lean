-- HoleWater.sheet(III)I
theorem dX11_sheet_29 : decode cX11_sheet 29 = .ok (.aload_n 0, 1) := by decide +kernel
theorem dX11_sheet_30 : decode cX11_sheet 30 = .ok (.iconst 1, 1) := by decide +kernel
theorem dX11_sheet_31 : decode cX11_sheet 31 = .ok (.invokevirtual 66, 3) := by decide +kernel
theorem dX11_sheet_34 : decode cX11_sheet 34 = .ok (.ireturn, 1) := by decide +kernel
theorem dX11_sheet_90 : decode cX11_sheet 90 = .ok (.iload 4, 2) := by decide +kernel
theorem dX11_sheet_92 : decode cX11_sheet 92 = .ok (.bipush 24, 2) := by decide +kernel
theorem dX11_sheet_94 : decode cX11_sheet 94 = .ok (.if_icmp .ge 22, 3) := by decide +kernel
theorem dX11_sheet_116 : decode cX11_sheet 116 = .ok (.iconst 1, 1) := by decide +kernel
theorem dX11_sheet_117 : decode cX11_sheet 117 = .ok (.ireturn, 1) := by decide +kernel
theorem dX11_sheet_97 : decode cX11_sheet 97 = .ok (.aload_n 0, 1) := by decide +kernel
theorem dX11_sheet_98 : decode cX11_sheet 98 = .ok (.getfield 52, 3) := by decide +kernel
theorem dX11_sheet_101 : decode cX11_sheet 101 = .ok (.iload_n 1, 1) := by decide +kernel
theorem dX11_sheet_102 : decode cX11_sheet 102 = .ok (.bipush 24, 2) := by decide +kernel
theorem dX11_sheet_104 : decode cX11_sheet 104 = .ok (.imul, 1) := by decide +kernel
theorem dX11_sheet_105 : decode cX11_sheet 105 = .ok (.iload 4, 2) := by decide +kernel
theorem dX11_sheet_107 : decode cX11_sheet 107 = .ok (.iadd, 1) := by decide +kernel
theorem dX11_sheet_108 : decode cX11_sheet 108 = .ok (.iconst 0, 1) := by decide +kernel
theorem dX11_sheet_109 : decode cX11_sheet 109 = .ok (.iastore, 1) := by decide +kernel
theorem dX11_sheet_110 : decode cX11_sheet 110 = .ok (.iinc 4 1, 3) := by decide +kernel
theorem dX11_sheet_113 : decode cX11_sheet 113 = .ok (.goto (-23), 3) := by decide +kernel
theorem dX11_sheet_86 : decode cX11_sheet 86 = .ok (.iastore, 1) := by decide +kernel
theorem dX11_sheet_87 : decode cX11_sheet 87 = .ok (.iconst 0, 1) := by decide +kernel
theorem dX11_sheet_88 : decode cX11_sheet 88 = .ok (.istore 4, 2) := by decide +kernel
theorem dX11_sheet_65 : decode cX11_sheet 65 = .ok (.aload_n 0, 1) := by decide +kernel
theorem dX11_sheet_66 : decode cX11_sheet 66 = .ok (.getfield 46, 3) := by decide +kernel
theorem dX11_sheet_69 : decode cX11_sheet 69 = .ok (.iload_n 1, 1) := by decide +kernel
theorem dX11_sheet_70 : decode cX11_sheet 70 = .ok (.iload_n 2, 1) := by decide +kernel
theorem dX11_sheet_71 : decode cX11_sheet 71 = .ok (.iastore, 1) := by decide +kernel
theorem dX11_sheet_72 : decode cX11_sheet 72 = .ok (.aload_n 0, 1) := by decide +kernel
theorem dX11_sheet_73 : decode cX11_sheet 73 = .ok (.getfield 49, 3) := by decide +kernel
theorem dX11_sheet_76 : decode cX11_sheet 76 = .ok (.iload_n 1, 1) := by decide +kernel
theorem dX11_sheet_77 : decode cX11_sheet 77 = .ok (.iload_n 2, 1) := by decide +kernel
theorem dX11_sheet_78 : decode cX11_sheet 78 = .ok (.ifCond .ne 7, 3) := by decide +kernel
theorem dX11_sheet_81 : decode cX11_sheet 81 = .ok (.iconst 0, 1) := by decide +kernel
theorem dX11_sheet_82 : decode cX11_sheet 82 = .ok (.goto 4, 3) := by decide +kernel
theorem dX11_sheet_85 : decode cX11_sheet 85 = .ok (.iload_n 3, 1) := by decide +kernel
theorem dX11_sheet_49 : decode cX11_sheet 49 = .ok (.iload_n 2, 1) := by decide +kernel
theorem dX11_sheet_50 : decode cX11_sheet 50 = .ok (.ifCond .eq 15, 3) := by decide +kernel
theorem dX11_sheet_53 : decode cX11_sheet 53 = .ok (.iload_n 3, 1) := by decide +kernel
theorem dX11_sheet_54 : decode cX11_sheet 54 = .ok (.bipush 24, 2) := by decide +kernel
theorem dX11_sheet_56 : decode cX11_sheet 56 = .ok (.if_icmp .le 9, 3) := by decide +kernel
theorem dX11_sheet_59 : decode cX11_sheet 59 = .ok (.aload_n 0, 1) := by decide +kernel
theorem dX11_sheet_60 : decode cX11_sheet 60 = .ok (.iconst 1, 1) := by decide +kernel
theorem dX11_sheet_61 : decode cX11_sheet 61 = .ok (.invokevirtual 66, 3) := by decide +kernel
theorem dX11_sheet_64 : decode cX11_sheet 64 = .ok (.ireturn, 1) := by decide +kernel
theorem dX11_sheet_35 : decode cX11_sheet 35 = .ok (.iload_n 2, 1) := by decide +kernel
theorem dX11_sheet_36 : decode cX11_sheet 36 = .ok (.ifCond .eq 13, 3) := by decide +kernel
theorem dX11_sheet_39 : decode cX11_sheet 39 = .ok (.iload_n 3, 1) := by decide +kernel
theorem dX11_sheet_40 : decode cX11_sheet 40 = .ok (.ifCond .ge 9, 3) := by decide +kernel
theorem dX11_sheet_43 : decode cX11_sheet 43 = .ok (.aload_n 0, 1) := by decide +kernel
theorem dX11_sheet_44 : decode cX11_sheet 44 = .ok (.iconst 3, 1) := by decide +kernel
theorem dX11_sheet_45 : decode cX11_sheet 45 = .ok (.invokevirtual 66, 3) := by decide +kernel
theorem dX11_sheet_48 : decode cX11_sheet 48 = .ok (.ireturn, 1) := by decide +kernel
theorem dX11_sheet_0 : decode cX11_sheet 0 = .ok (.iload_n 1, 1) := by decide +kernel
theorem dX11_sheet_1 : decode cX11_sheet 1 = .ok (.invokestatic 211, 3) := by decide +kernel
theorem dX11_sheet_4 : decode cX11_sheet 4 = .ok (.ifCond .eq 25, 3) := by decide +kernel
theorem dX11_sheet_7 : decode cX11_sheet 7 = .ok (.iload_n 2, 1) := by decide +kernel
theorem dX11_sheet_8 : decode cX11_sheet 8 = .ok (.ifCond .eq 27, 3) := by decide +kernel
theorem dX11_sheet_11 : decode cX11_sheet 11 = .ok (.iload_n 2, 1) := by decide +kernel
theorem dX11_sheet_12 : decode cX11_sheet 12 = .ok (.bipush 8, 2) := by decide +kernel
theorem dX11_sheet_14 : decode cX11_sheet 14 = .ok (.if_icmp .eq 21, 3) := by decide +kernel
theorem dX11_sheet_17 : decode cX11_sheet 17 = .ok (.iload_n 2, 1) := by decide +kernel
theorem dX11_sheet_18 : decode cX11_sheet 18 = .ok (.bipush 16, 2) := by decide +kernel
theorem dX11_sheet_20 : decode cX11_sheet 20 = .ok (.if_icmp .eq 15, 3) := by decide +kernel
theorem dX11_sheet_23 : decode cX11_sheet 23 = .ok (.iload_n 2, 1) := by decide +kernel
theorem dX11_sheet_24 : decode cX11_sheet 24 = .ok (.bipush 32, 2) := by decide +kernel
theorem dX11_sheet_26 : decode cX11_sheet 26 = .ok (.if_icmp .eq 9, 3) := by decide +kernel
def D_X11_sheet_29 (N : Nat) (h : mh_H) (l0 : Nat) : Option (Int32 × mh_H) :=
  kO h 11 l0 <|
  (D_X11_error N h l0 (1 : Int32)).bind fun q1 =>
  some (q1.1, q1.2)
set_option maxHeartbeats 4000000 in
set_option maxRecDepth 100000 in
theorem T_X11_sheet_29 {P : mh_E → Prop} {N d : Nat} (hd : 3 ≤ d) {z : (Int32 × mh_H)} {h : mh_H} {l0 : Nat} (hq : D_X11_sheet_29 N h l0 = some z) : mh_go P d mX11_sheet 29 [some (.ref l0), none, none, none, none] [] h (some (.int z.1)) z.2 := by
  unfold D_X11_sheet_29 at hq
  refine st_aload_n (pc := 29) dX11_sheet_29 rfl ?_
  refine st_iconst (pc := 30) (v := (1 : Int32)) dX11_sheet_30 rfl ?_
  obtain ⟨⟨hbq1, hkq1⟩, hq⟩ := mh_oi hq
  obtain ⟨q1, e1, hq⟩ := mh_ob hq
  refine st_invV (pc := 31) (ci := 11) (vs := [.int (1 : Int32)]) (rest := []) (st2 := [.int q1.1]) dX11_sheet_31 okX11_error (by decide) hkq1 hbq1 wd_326 wd_328 wp_0 pdX11_error rfl rfl rfl rfl (Nat.le_trans (by decide) hd) (Nat.le_of_ble_eq_true rfl) (T_X11_error (Nat.le_refl _) e1) rfl ?_
  exact bd_iret (pc := 34) hq dX11_sheet_34 rfl
def D_X11_sheet_90 (N : Nat) : Nat → mh_H → Nat → Int32 → Int32 → Option (Int32 × mh_H)
  | 0, _, _, _, _ => none
  | F + 1, h, l0, l1, l4 =>
    if (24 : Int32) ≤ l4 then (some ((1 : Int32), h))
    else ((gR h 11 l0 8).bind fun v1 =>
    (uI h v1 ((l1 * (24 : Int32)) + l4) (0 : Int32)).bind fun h2 =>
    (D_X11_sheet_90 N F) h2 l0 l1 (l4 + Int32.ofInt (1)))
set_option maxHeartbeats 4000000 in
set_option maxRecDepth 100000 in
theorem T_X11_sheet_90 {P : mh_E → Prop} {N d : Nat} (hd : 3 ≤ d) {z : (Int32 × mh_H)} : ∀ (F : Nat) (h : mh_H) (l0 : Nat) (l1 : Int32) (l4 : Int32), D_X11_sheet_90 N F h l0 l1 l4 = some z → mh_go P d mX11_sheet 90 [some (.ref l0), some (.int l1), none, none, some (.int l4)] [] h (some (.int z.1)) z.2 := by
  intro F
  induction F with
  | zero => intro h l0 l1 l4 hq; rw [D_X11_sheet_90] at hq; cases hq
  | succ F ih =>
    intro h l0 l1 l4 hq
    rw [D_X11_sheet_90] at hq
    refine st_iload (pc := 90) dX11_sheet_90 rfl ?_
    refine st_bipush (pc := 92) (v := (24 : Int32)) dX11_sheet_92 (by decide) ?_
    refine bd_icmp_ge (pc := 94) (tgt := 116) hq dX11_sheet_94 (by decide) (fun _ hq => ?_) (fun _ hq => ?_)
    ·
      refine st_iconst (pc := 116) (v := (1 : Int32)) dX11_sheet_116 rfl ?_
      exact bd_iret (pc := 117) hq dX11_sheet_117 rfl
    ·
      refine st_aload_n (pc := 97) dX11_sheet_97 rfl ?_
      refine bd_getr (pc := 98) hq dX11_sheet_98 fl_11_52_11 rfl (fun v1 hq => ?_)
      refine st_iload_n (pc := 101) dX11_sheet_101 rfl ?_
      refine st_bipush (pc := 102) (v := (24 : Int32)) dX11_sheet_102 (by decide) ?_
      refine st_imul (pc := 104) dX11_sheet_104 ?_
      refine st_iload (pc := 105) dX11_sheet_105 rfl ?_
      refine st_iadd (pc := 107) dX11_sheet_107 ?_
      refine st_iconst (pc := 108) (v := (0 : Int32)) dX11_sheet_108 rfl ?_
      refine bd_iast (pc := 109) hq dX11_sheet_109 (fun h2 hq => ?_)
      refine st_iinc (pc := 110) (lv' := [some (.ref l0), some (.int l1), none, none, some (.int (l4 + Int32.ofInt (1)))]) dX11_sheet_110 rfl rfl (by decide) rfl ?_
      refine st_goto (pc := 113) (tgt := 90) dX11_sheet_113 (by decide) ?_
      exact ih _ _ _ _ hq
def D_X11_sheet_86 (N : Nat) (h : mh_H) (l0 : Nat) (l1 : Int32) (s0 : Nat) (s1 : Int32) (s2 : Int32) : Option (Int32 × mh_H) :=
  (uI h s0 s1 s2).bind fun h1 =>
  D_X11_sheet_90 N N h1 l0 l1 (0 : Int32)
set_option maxHeartbeats 4000000 in
set_option maxRecDepth 100000 in
theorem T_X11_sheet_86 {P : mh_E → Prop} {N d : Nat} (hd : 3 ≤ d) {z : (Int32 × mh_H)} {h : mh_H} {l0 : Nat} {l1 : Int32} {s0 : Nat} {s1 : Int32} {s2 : Int32} (hq : D_X11_sheet_86 N h l0 l1 s0 s1 s2 = some z) : mh_go P d mX11_sheet 86 [some (.ref l0), some (.int l1), none, none, none] [.int s2, .int s1, .ref s0] h (some (.int z.1)) z.2 := by
  unfold D_X11_sheet_86 at hq
  refine bd_iast (pc := 86) hq dX11_sheet_86 (fun h1 hq => ?_)
  refine st_iconst (pc := 87) (v := (0 : Int32)) dX11_sheet_87 rfl ?_
  refine st_istore (pc := 88) (lv' := [some (.ref l0), some (.int l1), none, none, some (.int (0 : Int32))]) dX11_sheet_88 rfl (by decide) rfl ?_
  exact T_X11_sheet_90 hd N _ _ _ _ hq
def D_X11_sheet_65 (N : Nat) (h : mh_H) (l0 : Nat) (l1 : Int32) (l2 : Int32) (l3 : Int32) : Option (Int32 × mh_H) :=
  (gR h 11 l0 6).bind fun v1 =>
  (uI h v1 l1 l2).bind fun h2 =>
  (gR h2 11 l0 7).bind fun v3 =>
  if l2 = 0 then (D_X11_sheet_86 N h2 l0 l1 v3 l1 (0 : Int32))
  else (D_X11_sheet_86 N h2 l0 l1 v3 l1 l3)
set_option maxHeartbeats 4000000 in
set_option maxRecDepth 100000 in
theorem T_X11_sheet_65 {P : mh_E → Prop} {N d : Nat} (hd : 3 ≤ d) {z : (Int32 × mh_H)} {h : mh_H} {l0 : Nat} {l1 : Int32} {l2 : Int32} {l3 : Int32} (hq : D_X11_sheet_65 N h l0 l1 l2 l3 = some z) : mh_go P d mX11_sheet 65 [some (.ref l0), some (.int l1), some (.int l2), some (.int l3), none] [] h (some (.int z.1)) z.2 := by
  unfold D_X11_sheet_65 at hq
  refine st_aload_n (pc := 65) dX11_sheet_65 rfl ?_
  refine bd_getr (pc := 66) hq dX11_sheet_66 fl_11_46_11 rfl (fun v1 hq => ?_)
  refine st_iload_n (pc := 69) dX11_sheet_69 rfl ?_
  refine st_iload_n (pc := 70) dX11_sheet_70 rfl ?_
  refine bd_iast (pc := 71) hq dX11_sheet_71 (fun h2 hq => ?_)
  refine st_aload_n (pc := 72) dX11_sheet_72 rfl ?_
  refine bd_getr (pc := 73) hq dX11_sheet_73 fl_11_49_11 rfl (fun v3 hq => ?_)
  refine st_iload_n (pc := 76) dX11_sheet_76 rfl ?_
  refine st_iload_n (pc := 77) dX11_sheet_77 rfl ?_
  refine bd_if_ne (pc := 78) (tgt := 85) hq dX11_sheet_78 (by decide) (fun _ hq => ?_) (fun _ hq => ?_)
  ·
    refine st_iconst (pc := 81) (v := (0 : Int32)) dX11_sheet_81 rfl ?_
    refine st_goto (pc := 82) (tgt := 86) dX11_sheet_82 (by decide) ?_
    refine st_lesS (lv' := [some (.ref l0), some (.int l1), none, none, none]) ⟨Or.inr rfl, Or.inr rfl, Or.inl rfl, Or.inl rfl, Or.inr rfl, trivial⟩ ?_
    exact T_X11_sheet_86 hd hq
  ·
    refine st_iload_n (pc := 85) dX11_sheet_85 rfl ?_
    refine st_lesS (lv' := [some (.ref l0), some (.int l1), none, none, none]) ⟨Or.inr rfl, Or.inr rfl, Or.inl rfl, Or.inl rfl, Or.inr rfl, trivial⟩ ?_
    exact T_X11_sheet_86 hd hq
def D_X11_sheet_49 (N : Nat) (h : mh_H) (l0 : Nat) (l1 : Int32) (l2 : Int32) (l3 : Int32) : Option (Int32 × mh_H) :=
  if l2 = 0 then (D_X11_sheet_65 N h l0 l1 l2 l3)
  else (if l3 ≤ (24 : Int32) then (D_X11_sheet_65 N h l0 l1 l2 l3)
  else (kO h 11 l0 <|
  (D_X11_error N h l0 (1 : Int32)).bind fun q1 =>
  some (q1.1, q1.2)))
set_option maxHeartbeats 4000000 in
set_option maxRecDepth 100000 in
theorem T_X11_sheet_49 {P : mh_E → Prop} {N d : Nat} (hd : 3 ≤ d) {z : (Int32 × mh_H)} {h : mh_H} {l0 : Nat} {l1 : Int32} {l2 : Int32} {l3 : Int32} (hq : D_X11_sheet_49 N h l0 l1 l2 l3 = some z) : mh_go P d mX11_sheet 49 [some (.ref l0), some (.int l1), some (.int l2), some (.int l3), none] [] h (some (.int z.1)) z.2 := by
  unfold D_X11_sheet_49 at hq
  refine st_iload_n (pc := 49) dX11_sheet_49 rfl ?_
  refine bd_if_eq (pc := 50) (tgt := 65) hq dX11_sheet_50 (by decide) (fun _ hq => ?_) (fun _ hq => ?_)
  ·
    exact T_X11_sheet_65 hd hq
  ·
    refine st_iload_n (pc := 53) dX11_sheet_53 rfl ?_
    refine st_bipush (pc := 54) (v := (24 : Int32)) dX11_sheet_54 (by decide) ?_
    refine bd_icmp_le (pc := 56) (tgt := 65) hq dX11_sheet_56 (by decide) (fun _ hq => ?_) (fun _ hq => ?_)
    ·
      exact T_X11_sheet_65 hd hq
    ·
      refine st_aload_n (pc := 59) dX11_sheet_59 rfl ?_
      refine st_iconst (pc := 60) (v := (1 : Int32)) dX11_sheet_60 rfl ?_
      obtain ⟨⟨hbq1, hkq1⟩, hq⟩ := mh_oi hq
      obtain ⟨q1, e1, hq⟩ := mh_ob hq
      refine st_invV (pc := 61) (ci := 11) (vs := [.int (1 : Int32)]) (rest := []) (st2 := [.int q1.1]) dX11_sheet_61 okX11_error (by decide) hkq1 hbq1 wd_326 wd_328 wp_0 pdX11_error rfl rfl rfl rfl (Nat.le_trans (by decide) hd) (Nat.le_of_ble_eq_true rfl) (T_X11_error (Nat.le_refl _) e1) rfl ?_
      exact bd_iret (pc := 64) hq dX11_sheet_64 rfl
def D_X11_sheet_35 (N : Nat) (h : mh_H) (l0 : Nat) (l1 : Int32) (l2 : Int32) (l3 : Int32) : Option (Int32 × mh_H) :=
  if l2 = 0 then (D_X11_sheet_49 N h l0 l1 l2 l3)
  else (if 0 ≤ l3 then (D_X11_sheet_49 N h l0 l1 l2 l3)
  else (kO h 11 l0 <|
  (D_X11_error N h l0 (3 : Int32)).bind fun q1 =>
  some (q1.1, q1.2)))
set_option maxHeartbeats 4000000 in
set_option maxRecDepth 100000 in
theorem T_X11_sheet_35 {P : mh_E → Prop} {N d : Nat} (hd : 3 ≤ d) {z : (Int32 × mh_H)} {h : mh_H} {l0 : Nat} {l1 : Int32} {l2 : Int32} {l3 : Int32} (hq : D_X11_sheet_35 N h l0 l1 l2 l3 = some z) : mh_go P d mX11_sheet 35 [some (.ref l0), some (.int l1), some (.int l2), some (.int l3), none] [] h (some (.int z.1)) z.2 := by
  unfold D_X11_sheet_35 at hq
  refine st_iload_n (pc := 35) dX11_sheet_35 rfl ?_
  refine bd_if_eq (pc := 36) (tgt := 49) hq dX11_sheet_36 (by decide) (fun _ hq => ?_) (fun _ hq => ?_)
  ·
    exact T_X11_sheet_49 hd hq
  ·
    refine st_iload_n (pc := 39) dX11_sheet_39 rfl ?_
    refine bd_if_ge (pc := 40) (tgt := 49) hq dX11_sheet_40 (by decide) (fun _ hq => ?_) (fun _ hq => ?_)
    ·
      exact T_X11_sheet_49 hd hq
    ·
      refine st_aload_n (pc := 43) dX11_sheet_43 rfl ?_
      refine st_iconst (pc := 44) (v := (3 : Int32)) dX11_sheet_44 rfl ?_
      obtain ⟨⟨hbq1, hkq1⟩, hq⟩ := mh_oi hq
      obtain ⟨q1, e1, hq⟩ := mh_ob hq
      refine st_invV (pc := 45) (ci := 11) (vs := [.int (3 : Int32)]) (rest := []) (st2 := [.int q1.1]) dX11_sheet_45 okX11_error (by decide) hkq1 hbq1 wd_326 wd_328 wp_0 pdX11_error rfl rfl rfl rfl (Nat.le_trans (by decide) hd) (Nat.le_of_ble_eq_true rfl) (T_X11_error (Nat.le_refl _) e1) rfl ?_
      exact bd_iret (pc := 48) hq dX11_sheet_48 rfl
def D_X11_sheet (N : Nat) (h : mh_H) (l0 : Nat) (l1 : Int32) (l2 : Int32) (l3 : Int32) : Option (Int32 × mh_H) :=
  (D_X11_isSheet N h l1).bind fun q1 =>
  if q1.1 = 0 then (D_X11_sheet_29 N q1.2 l0)
  else (if l2 = 0 then (D_X11_sheet_35 N q1.2 l0 l1 l2 l3)
  else (if l2 = (8 : Int32) then (D_X11_sheet_35 N q1.2 l0 l1 l2 l3)
  else (if l2 = (16 : Int32) then (D_X11_sheet_35 N q1.2 l0 l1 l2 l3)
  else (if l2 = (32 : Int32) then (D_X11_sheet_35 N q1.2 l0 l1 l2 l3)
  else (D_X11_sheet_29 N q1.2 l0)))))
set_option maxHeartbeats 4000000 in
set_option maxRecDepth 100000 in
theorem T_X11_sheet {P : mh_E → Prop} {N d : Nat} (hd : 3 ≤ d) {z : (Int32 × mh_H)} {h : mh_H} {l0 : Nat} {l1 : Int32} {l2 : Int32} {l3 : Int32} (hq : D_X11_sheet N h l0 l1 l2 l3 = some z) : mh_go P d mX11_sheet 0 [some (.ref l0), some (.int l1), some (.int l2), some (.int l3), none] [] h (some (.int z.1)) z.2 := by
  unfold D_X11_sheet at hq
  refine st_iload_n (pc := 0) dX11_sheet_0 rfl ?_
  obtain ⟨q1, e1, hq⟩ := mh_ob hq
  refine st_invS (pc := 1) (Y := mX11_isSheet) (vs := [.int l1]) (rest := []) (st2 := [.int q1.1]) dX11_sheet_1 okX11_isSheet wd_636 wd_637 pdX11_isSheet rfl rfl rfl rfl (Nat.le_trans (by decide) hd) (Nat.le_of_ble_eq_true rfl) (T_X11_isSheet (Nat.le_refl _) e1) rfl ?_
  refine bd_if_eq (pc := 4) (tgt := 29) hq dX11_sheet_4 (by decide) (fun _ hq => ?_) (fun _ hq => ?_)
  ·
    refine st_lesS (lv' := [some (.ref l0), none, none, none, none]) ⟨Or.inr rfl, Or.inl rfl, Or.inl rfl, Or.inl rfl, Or.inr rfl, trivial⟩ ?_
    exact T_X11_sheet_29 hd hq
  ·
    refine st_iload_n (pc := 7) dX11_sheet_7 rfl ?_
    refine bd_if_eq (pc := 8) (tgt := 35) hq dX11_sheet_8 (by decide) (fun _ hq => ?_) (fun _ hq => ?_)
    ·
      exact T_X11_sheet_35 hd hq
    ·
      refine st_iload_n (pc := 11) dX11_sheet_11 rfl ?_
      refine st_bipush (pc := 12) (v := (8 : Int32)) dX11_sheet_12 (by decide) ?_
      refine bd_icmp_eq (pc := 14) (tgt := 35) hq dX11_sheet_14 (by decide) (fun _ hq => ?_) (fun _ hq => ?_)
      ·
        exact T_X11_sheet_35 hd hq
      ·
        refine st_iload_n (pc := 17) dX11_sheet_17 rfl ?_
        refine st_bipush (pc := 18) (v := (16 : Int32)) dX11_sheet_18 (by decide) ?_
        refine bd_icmp_eq (pc := 20) (tgt := 35) hq dX11_sheet_20 (by decide) (fun _ hq => ?_) (fun _ hq => ?_)
        ·
          exact T_X11_sheet_35 hd hq
        ·
          refine st_iload_n (pc := 23) dX11_sheet_23 rfl ?_
          refine st_bipush (pc := 24) (v := (32 : Int32)) dX11_sheet_24 (by decide) ?_
          refine bd_icmp_eq (pc := 26) (tgt := 35) hq dX11_sheet_26 (by decide) (fun _ hq => ?_) (fun _ hq => ?_)
          ·
            exact T_X11_sheet_35 hd hq
          ·
            refine st_lesS (lv' := [some (.ref l0), none, none, none, none]) ⟨Or.inr rfl, Or.inl rfl, Or.inl rfl, Or.inl rfl, Or.inr rfl, trivial⟩ ?_
            exact T_X11_sheet_29 hd hq
-- HoleWater.lowest(II)I
theorem dX11_lowest_0 : decode cX11_lowest 0 = .ok (.iload_n 1, 1) := by decide +kernel
theorem dX11_lowest_1 : decode cX11_lowest 1 = .ok (.bipush 8, 2) := by decide +kernel
theorem dX11_lowest_3 : decode cX11_lowest 3 = .ok (.if_icmp .ne 8, 3) := by decide +kernel
theorem dX11_lowest_6 : decode cX11_lowest 6 = .ok (.iload_n 0, 1) := by decide +kernel
theorem dX11_lowest_7 : decode cX11_lowest 7 = .ok (.i2b, 1) := by decide +kernel
theorem dX11_lowest_8 : decode cX11_lowest 8 = .ok (.goto 15, 3) := by decide +kernel
theorem dX11_lowest_23 : decode cX11_lowest 23 = .ok (.ireturn, 1) := by decide +kernel
theorem dX11_lowest_11 : decode cX11_lowest 11 = .ok (.iload_n 1, 1) := by decide +kernel
theorem dX11_lowest_12 : decode cX11_lowest 12 = .ok (.bipush 16, 2) := by decide +kernel
theorem dX11_lowest_14 : decode cX11_lowest 14 = .ok (.if_icmp .ne 8, 3) := by decide +kernel
theorem dX11_lowest_17 : decode cX11_lowest 17 = .ok (.iload_n 0, 1) := by decide +kernel
theorem dX11_lowest_18 : decode cX11_lowest 18 = .ok (.i2s, 1) := by decide +kernel
theorem dX11_lowest_19 : decode cX11_lowest 19 = .ok (.goto 4, 3) := by decide +kernel
theorem dX11_lowest_22 : decode cX11_lowest 22 = .ok (.iload_n 0, 1) := by decide +kernel
def D_X11_lowest (N : Nat) (h : mh_H) (l0 : Int32) (l1 : Int32) : Option (Int32 × mh_H) :=
  if l1 = (8 : Int32) then (some (l0.toInt8.toInt32, h))
  else (if l1 = (16 : Int32) then (some (l0.toInt16.toInt32, h))
  else (some (l0, h)))
set_option maxHeartbeats 4000000 in
set_option maxRecDepth 100000 in
theorem T_X11_lowest {P : mh_E → Prop} {N d : Nat} (hd : 1 ≤ d) {z : (Int32 × mh_H)} {h : mh_H} {l0 : Int32} {l1 : Int32} (hq : D_X11_lowest N h l0 l1 = some z) : mh_go P d mX11_lowest 0 [some (.int l0), some (.int l1)] [] h (some (.int z.1)) z.2 := by
  unfold D_X11_lowest at hq
  refine st_iload_n (pc := 0) dX11_lowest_0 rfl ?_
  refine st_bipush (pc := 1) (v := (8 : Int32)) dX11_lowest_1 (by decide) ?_
  refine bd_icmp_ne (pc := 3) (tgt := 11) hq dX11_lowest_3 (by decide) (fun _ hq => ?_) (fun _ hq => ?_)
  ·
    refine st_iload_n (pc := 6) dX11_lowest_6 rfl ?_
    refine st_i2b (pc := 7) dX11_lowest_7 ?_
    refine st_goto (pc := 8) (tgt := 23) dX11_lowest_8 (by decide) ?_
    exact bd_iret (pc := 23) hq dX11_lowest_23 rfl
  ·
    refine st_iload_n (pc := 11) dX11_lowest_11 rfl ?_
    refine st_bipush (pc := 12) (v := (16 : Int32)) dX11_lowest_12 (by decide) ?_
    refine bd_icmp_ne (pc := 14) (tgt := 22) hq dX11_lowest_14 (by decide) (fun _ hq => ?_) (fun _ hq => ?_)
    ·
      refine st_iload_n (pc := 17) dX11_lowest_17 rfl ?_
      refine st_i2s (pc := 18) dX11_lowest_18 ?_
      refine st_goto (pc := 19) (tgt := 23) dX11_lowest_19 (by decide) ?_
      exact bd_iret (pc := 23) hq dX11_lowest_23 rfl
    ·
      refine st_iload_n (pc := 22) dX11_lowest_22 rfl ?_
      exact bd_iret (pc := 23) hq dX11_lowest_23 rfl
-- HoleWater.place(III)I
theorem dX11_place_0 : decode cX11_place 0 = .ok (.iload_n 1, 1) := by decide +kernel
theorem dX11_place_1 : decode cX11_place 1 = .ok (.invokestatic 211, 3) := by decide +kernel
theorem dX11_place_4 : decode cX11_place 4 = .ok (.ifCond .ne 9, 3) := by decide +kernel
theorem dX11_place_7 : decode cX11_place 7 = .ok (.aload_n 0, 1) := by decide +kernel
theorem dX11_place_8 : decode cX11_place 8 = .ok (.iconst 1, 1) := by decide +kernel
theorem dX11_place_9 : decode cX11_place 9 = .ok (.invokevirtual 66, 3) := by decide +kernel
theorem dX11_place_12 : decode cX11_place 12 = .ok (.ireturn, 1) := by decide +kernel
theorem dX11_place_13 : decode cX11_place 13 = .ok (.aload_n 0, 1) := by decide +kernel
theorem dX11_place_14 : decode cX11_place 14 = .ok (.getfield 46, 3) := by decide +kernel
theorem dX11_place_17 : decode cX11_place 17 = .ok (.iload_n 1, 1) := by decide +kernel
theorem dX11_place_18 : decode cX11_place 18 = .ok (.iaload, 1) := by decide +kernel
theorem dX11_place_19 : decode cX11_place 19 = .ok (.ifCond .ne 9, 3) := by decide +kernel
theorem dX11_place_22 : decode cX11_place 22 = .ok (.aload_n 0, 1) := by decide +kernel
theorem dX11_place_23 : decode cX11_place 23 = .ok (.iconst 2, 1) := by decide +kernel
theorem dX11_place_24 : decode cX11_place 24 = .ok (.invokevirtual 66, 3) := by decide +kernel
theorem dX11_place_27 : decode cX11_place 27 = .ok (.ireturn, 1) := by decide +kernel
theorem dX11_place_28 : decode cX11_place 28 = .ok (.iload_n 2, 1) := by decide +kernel
theorem dX11_place_29 : decode cX11_place 29 = .ok (.iconst 0, 1) := by decide +kernel
theorem dX11_place_30 : decode cX11_place 30 = .ok (.aload_n 0, 1) := by decide +kernel
theorem dX11_place_31 : decode cX11_place 31 = .ok (.getfield 49, 3) := by decide +kernel
theorem dX11_place_34 : decode cX11_place 34 = .ok (.iload_n 1, 1) := by decide +kernel
theorem dX11_place_35 : decode cX11_place 35 = .ok (.iaload, 1) := by decide +kernel
theorem dX11_place_36 : decode cX11_place 36 = .ok (.iconst 1, 1) := by decide +kernel
theorem dX11_place_37 : decode cX11_place 37 = .ok (.isub, 1) := by decide +kernel
theorem dX11_place_38 : decode cX11_place 38 = .ok (.invokestatic 62, 3) := by decide +kernel
theorem dX11_place_41 : decode cX11_place 41 = .ok (.ifCond .ne 9, 3) := by decide +kernel
theorem dX11_place_44 : decode cX11_place 44 = .ok (.aload_n 0, 1) := by decide +kernel
theorem dX11_place_45 : decode cX11_place 45 = .ok (.iconst 1, 1) := by decide +kernel
theorem dX11_place_46 : decode cX11_place 46 = .ok (.invokevirtual 66, 3) := by decide +kernel
theorem dX11_place_49 : decode cX11_place 49 = .ok (.ireturn, 1) := by decide +kernel
theorem dX11_place_50 : decode cX11_place 50 = .ok (.aload_n 0, 1) := by decide +kernel
theorem dX11_place_51 : decode cX11_place 51 = .ok (.getfield 52, 3) := by decide +kernel
theorem dX11_place_54 : decode cX11_place 54 = .ok (.iload_n 1, 1) := by decide +kernel
theorem dX11_place_55 : decode cX11_place 55 = .ok (.bipush 24, 2) := by decide +kernel
theorem dX11_place_57 : decode cX11_place 57 = .ok (.imul, 1) := by decide +kernel
theorem dX11_place_58 : decode cX11_place 58 = .ok (.iload_n 2, 1) := by decide +kernel
theorem dX11_place_59 : decode cX11_place 59 = .ok (.iadd, 1) := by decide +kernel
theorem dX11_place_60 : decode cX11_place 60 = .ok (.iload_n 3, 1) := by decide +kernel
theorem dX11_place_61 : decode cX11_place 61 = .ok (.aload_n 0, 1) := by decide +kernel
theorem dX11_place_62 : decode cX11_place 62 = .ok (.getfield 46, 3) := by decide +kernel
theorem dX11_place_65 : decode cX11_place 65 = .ok (.iload_n 1, 1) := by decide +kernel
theorem dX11_place_66 : decode cX11_place 66 = .ok (.iaload, 1) := by decide +kernel
theorem dX11_place_67 : decode cX11_place 67 = .ok (.invokestatic 352, 3) := by decide +kernel
theorem dX11_place_70 : decode cX11_place 70 = .ok (.iastore, 1) := by decide +kernel
theorem dX11_place_71 : decode cX11_place 71 = .ok (.iconst 1, 1) := by decide +kernel
theorem dX11_place_72 : decode cX11_place 72 = .ok (.ireturn, 1) := by decide +kernel
def D_X11_place (N : Nat) (h : mh_H) (l0 : Nat) (l1 : Int32) (l2 : Int32) (l3 : Int32) : Option (Int32 × mh_H) :=
  (D_X11_isSheet N h l1).bind fun q1 =>
  if q1.1 = 0 then (kO q1.2 11 l0 <|
  (D_X11_error N q1.2 l0 (1 : Int32)).bind fun q2 =>
  some (q2.1, q2.2))
  else ((gR q1.2 11 l0 6).bind fun v2 =>
  (aI q1.2 v2 l1).bind fun v3 =>
  if v3 = 0 then (kO q1.2 11 l0 <|
  (D_X11_error N q1.2 l0 (2 : Int32)).bind fun q4 =>
  some (q4.1, q4.2))
  else ((gR q1.2 11 l0 7).bind fun v4 =>
  (aI q1.2 v4 l1).bind fun v5 =>
  (D_X11_within N q1.2 l2 (0 : Int32) (v5 - (1 : Int32))).bind fun q6 =>
  if q6.1 = 0 then (kO q6.2 11 l0 <|
  (D_X11_error N q6.2 l0 (1 : Int32)).bind fun q7 =>
  some (q7.1, q7.2))
  else ((gR q6.2 11 l0 8).bind fun v7 =>
  (gR q6.2 11 l0 6).bind fun v8 =>
  (aI q6.2 v8 l1).bind fun v9 =>
  (D_X11_lowest N q6.2 l3 v9).bind fun q10 =>
  (uI q10.2 v7 ((l1 * (24 : Int32)) + l2) q10.1).bind fun h11 =>
  some ((1 : Int32), h11))))
set_option maxHeartbeats 4000000 in
set_option maxRecDepth 100000 in
theorem T_X11_place {P : mh_E → Prop} {N d : Nat} (hd : 3 ≤ d) {z : (Int32 × mh_H)} {h : mh_H} {l0 : Nat} {l1 : Int32} {l2 : Int32} {l3 : Int32} (hq : D_X11_place N h l0 l1 l2 l3 = some z) : mh_go P d mX11_place 0 [some (.ref l0), some (.int l1), some (.int l2), some (.int l3)] [] h (some (.int z.1)) z.2 := by
  unfold D_X11_place at hq
  refine st_iload_n (pc := 0) dX11_place_0 rfl ?_
  obtain ⟨q1, e1, hq⟩ := mh_ob hq
  refine st_invS (pc := 1) (Y := mX11_isSheet) (vs := [.int l1]) (rest := []) (st2 := [.int q1.1]) dX11_place_1 okX11_isSheet wd_636 wd_637 pdX11_isSheet rfl rfl rfl rfl (Nat.le_trans (by decide) hd) (Nat.le_of_ble_eq_true rfl) (T_X11_isSheet (Nat.le_refl _) e1) rfl ?_
  refine bd_if_ne (pc := 4) (tgt := 13) hq dX11_place_4 (by decide) (fun _ hq => ?_) (fun _ hq => ?_)
  ·
    refine st_aload_n (pc := 7) dX11_place_7 rfl ?_
    refine st_iconst (pc := 8) (v := (1 : Int32)) dX11_place_8 rfl ?_
    obtain ⟨⟨hbq2, hkq2⟩, hq⟩ := mh_oi hq
    obtain ⟨q2, e2, hq⟩ := mh_ob hq
    refine st_invV (pc := 9) (ci := 11) (vs := [.int (1 : Int32)]) (rest := []) (st2 := [.int q2.1]) dX11_place_9 okX11_error (by decide) hkq2 hbq2 wd_326 wd_328 wp_0 pdX11_error rfl rfl rfl rfl (Nat.le_trans (by decide) hd) (Nat.le_of_ble_eq_true rfl) (T_X11_error (Nat.le_refl _) e2) rfl ?_
    exact bd_iret (pc := 12) hq dX11_place_12 rfl
  ·
    refine st_aload_n (pc := 13) dX11_place_13 rfl ?_
    refine bd_getr (pc := 14) hq dX11_place_14 fl_11_46_11 rfl (fun v2 hq => ?_)
    refine st_iload_n (pc := 17) dX11_place_17 rfl ?_
    refine bd_iald (pc := 18) hq dX11_place_18 (fun v3 hq => ?_)
    refine bd_if_ne (pc := 19) (tgt := 28) hq dX11_place_19 (by decide) (fun _ hq => ?_) (fun _ hq => ?_)
    ·
      refine st_aload_n (pc := 22) dX11_place_22 rfl ?_
      refine st_iconst (pc := 23) (v := (2 : Int32)) dX11_place_23 rfl ?_
      obtain ⟨⟨hbq4, hkq4⟩, hq⟩ := mh_oi hq
      obtain ⟨q4, e4, hq⟩ := mh_ob hq
      refine st_invV (pc := 24) (ci := 11) (vs := [.int (2 : Int32)]) (rest := []) (st2 := [.int q4.1]) dX11_place_24 okX11_error (by decide) hkq4 hbq4 wd_326 wd_328 wp_0 pdX11_error rfl rfl rfl rfl (Nat.le_trans (by decide) hd) (Nat.le_of_ble_eq_true rfl) (T_X11_error (Nat.le_refl _) e4) rfl ?_
      exact bd_iret (pc := 27) hq dX11_place_27 rfl
    ·
      refine st_iload_n (pc := 28) dX11_place_28 rfl ?_
      refine st_iconst (pc := 29) (v := (0 : Int32)) dX11_place_29 rfl ?_
      refine st_aload_n (pc := 30) dX11_place_30 rfl ?_
      refine bd_getr (pc := 31) hq dX11_place_31 fl_11_49_11 rfl (fun v4 hq => ?_)
      refine st_iload_n (pc := 34) dX11_place_34 rfl ?_
      refine bd_iald (pc := 35) hq dX11_place_35 (fun v5 hq => ?_)
      refine st_iconst (pc := 36) (v := (1 : Int32)) dX11_place_36 rfl ?_
      refine st_isub (pc := 37) dX11_place_37 ?_
      obtain ⟨q6, e6, hq⟩ := mh_ob hq
      refine st_invS (pc := 38) (Y := mX11_within) (vs := [.int l2, .int (0 : Int32), .int (v5 - (1 : Int32))]) (rest := []) (st2 := [.int q6.1]) dX11_place_38 okX11_within wd_323 wd_324 pdX11_within rfl rfl rfl rfl (Nat.le_trans (by decide) hd) (Nat.le_of_ble_eq_true rfl) (T_X11_within (Nat.le_refl _) e6) rfl ?_
      refine bd_if_ne (pc := 41) (tgt := 50) hq dX11_place_41 (by decide) (fun _ hq => ?_) (fun _ hq => ?_)
      ·
        refine st_aload_n (pc := 44) dX11_place_44 rfl ?_
        refine st_iconst (pc := 45) (v := (1 : Int32)) dX11_place_45 rfl ?_
        obtain ⟨⟨hbq7, hkq7⟩, hq⟩ := mh_oi hq
        obtain ⟨q7, e7, hq⟩ := mh_ob hq
        refine st_invV (pc := 46) (ci := 11) (vs := [.int (1 : Int32)]) (rest := []) (st2 := [.int q7.1]) dX11_place_46 okX11_error (by decide) hkq7 hbq7 wd_326 wd_328 wp_0 pdX11_error rfl rfl rfl rfl (Nat.le_trans (by decide) hd) (Nat.le_of_ble_eq_true rfl) (T_X11_error (Nat.le_refl _) e7) rfl ?_
        exact bd_iret (pc := 49) hq dX11_place_49 rfl
      ·
        refine st_aload_n (pc := 50) dX11_place_50 rfl ?_
        refine bd_getr (pc := 51) hq dX11_place_51 fl_11_52_11 rfl (fun v7 hq => ?_)
        refine st_iload_n (pc := 54) dX11_place_54 rfl ?_
        refine st_bipush (pc := 55) (v := (24 : Int32)) dX11_place_55 (by decide) ?_
        refine st_imul (pc := 57) dX11_place_57 ?_
        refine st_iload_n (pc := 58) dX11_place_58 rfl ?_
        refine st_iadd (pc := 59) dX11_place_59 ?_
        refine st_iload_n (pc := 60) dX11_place_60 rfl ?_
        refine st_aload_n (pc := 61) dX11_place_61 rfl ?_
        refine bd_getr (pc := 62) hq dX11_place_62 fl_11_46_11 rfl (fun v8 hq => ?_)
        refine st_iload_n (pc := 65) dX11_place_65 rfl ?_
        refine bd_iald (pc := 66) hq dX11_place_66 (fun v9 hq => ?_)
        obtain ⟨q10, e10, hq⟩ := mh_ob hq
        refine st_invS (pc := 67) (Y := mX11_lowest) (vs := [.int l3, .int v9]) (rest := [.int ((l1 * (24 : Int32)) + l2), .ref v7]) (st2 := [.int q10.1, .int ((l1 * (24 : Int32)) + l2), .ref v7]) dX11_place_67 okX11_lowest wd_1119 wd_1120 pdX11_lowest rfl rfl rfl rfl (Nat.le_trans (by decide) hd) (Nat.le_of_ble_eq_true rfl) (T_X11_lowest (Nat.le_refl _) e10) rfl ?_
        refine bd_iast (pc := 70) hq dX11_place_70 (fun h11 hq => ?_)
        refine st_iconst (pc := 71) (v := (1 : Int32)) dX11_place_71 rfl ?_
        exact bd_iret (pc := 72) hq dX11_place_72 rfl
-- HoleWater.move(IIIII)I
theorem dX11_move_14 : decode cX11_move 14 = .ok (.aload_n 0, 1) := by decide +kernel
theorem dX11_move_15 : decode cX11_move 15 = .ok (.iconst 1, 1) := by decide +kernel
theorem dX11_move_16 : decode cX11_move 16 = .ok (.invokevirtual 66, 3) := by decide +kernel
theorem dX11_move_19 : decode cX11_move 19 = .ok (.ireturn, 1) := by decide +kernel
theorem dX11_move_38 : decode cX11_move 38 = .ok (.aload_n 0, 1) := by decide +kernel
theorem dX11_move_39 : decode cX11_move 39 = .ok (.iconst 2, 1) := by decide +kernel
theorem dX11_move_40 : decode cX11_move 40 = .ok (.invokevirtual 66, 3) := by decide +kernel
theorem dX11_move_43 : decode cX11_move 43 = .ok (.ireturn, 1) := by decide +kernel
theorem dX11_move_106 : decode cX11_move 106 = .ok (.aload_n 0, 1) := by decide +kernel
theorem dX11_move_107 : decode cX11_move 107 = .ok (.iconst 1, 1) := by decide +kernel
theorem dX11_move_108 : decode cX11_move 108 = .ok (.invokevirtual 66, 3) := by decide +kernel
theorem dX11_move_111 : decode cX11_move 111 = .ok (.ireturn, 1) := by decide +kernel
theorem dX11_move_0 : decode cX11_move 0 = .ok (.iload_n 1, 1) := by decide +kernel
theorem dX11_move_1 : decode cX11_move 1 = .ok (.invokestatic 211, 3) := by decide +kernel
theorem dX11_move_4 : decode cX11_move 4 = .ok (.ifCond .eq 10, 3) := by decide +kernel
theorem dX11_move_7 : decode cX11_move 7 = .ok (.iload_n 3, 1) := by decide +kernel
theorem dX11_move_8 : decode cX11_move 8 = .ok (.invokestatic 211, 3) := by decide +kernel
theorem dX11_move_11 : decode cX11_move 11 = .ok (.ifCond .ne 9, 3) := by decide +kernel
theorem dX11_move_20 : decode cX11_move 20 = .ok (.aload_n 0, 1) := by decide +kernel
theorem dX11_move_21 : decode cX11_move 21 = .ok (.getfield 46, 3) := by decide +kernel
theorem dX11_move_24 : decode cX11_move 24 = .ok (.iload_n 1, 1) := by decide +kernel
theorem dX11_move_25 : decode cX11_move 25 = .ok (.iaload, 1) := by decide +kernel
theorem dX11_move_26 : decode cX11_move 26 = .ok (.ifCond .eq 12, 3) := by decide +kernel
theorem dX11_move_29 : decode cX11_move 29 = .ok (.aload_n 0, 1) := by decide +kernel
theorem dX11_move_30 : decode cX11_move 30 = .ok (.getfield 46, 3) := by decide +kernel
theorem dX11_move_33 : decode cX11_move 33 = .ok (.iload_n 3, 1) := by decide +kernel
theorem dX11_move_34 : decode cX11_move 34 = .ok (.iaload, 1) := by decide +kernel
theorem dX11_move_35 : decode cX11_move 35 = .ok (.ifCond .ne 9, 3) := by decide +kernel
theorem dX11_move_44 : decode cX11_move 44 = .ok (.aload_n 0, 1) := by decide +kernel
theorem dX11_move_45 : decode cX11_move 45 = .ok (.getfield 46, 3) := by decide +kernel
theorem dX11_move_48 : decode cX11_move 48 = .ok (.iload_n 1, 1) := by decide +kernel
theorem dX11_move_49 : decode cX11_move 49 = .ok (.iaload, 1) := by decide +kernel
theorem dX11_move_50 : decode cX11_move 50 = .ok (.aload_n 0, 1) := by decide +kernel
theorem dX11_move_51 : decode cX11_move 51 = .ok (.getfield 46, 3) := by decide +kernel
theorem dX11_move_54 : decode cX11_move 54 = .ok (.iload_n 3, 1) := by decide +kernel
theorem dX11_move_55 : decode cX11_move 55 = .ok (.iaload, 1) := by decide +kernel
theorem dX11_move_56 : decode cX11_move 56 = .ok (.if_icmp .eq 9, 3) := by decide +kernel
theorem dX11_move_65 : decode cX11_move 65 = .ok (.iload 5, 2) := by decide +kernel
theorem dX11_move_67 : decode cX11_move 67 = .ok (.ifCond .lt 39, 3) := by decide +kernel
theorem dX11_move_70 : decode cX11_move 70 = .ok (.iload_n 2, 1) := by decide +kernel
theorem dX11_move_71 : decode cX11_move 71 = .ok (.ifCond .lt 35, 3) := by decide +kernel
theorem dX11_move_74 : decode cX11_move 74 = .ok (.iload 4, 2) := by decide +kernel
theorem dX11_move_76 : decode cX11_move 76 = .ok (.ifCond .lt 30, 3) := by decide +kernel
theorem dX11_move_79 : decode cX11_move 79 = .ok (.iload 5, 2) := by decide +kernel
theorem dX11_move_81 : decode cX11_move 81 = .ok (.aload_n 0, 1) := by decide +kernel
theorem dX11_move_82 : decode cX11_move 82 = .ok (.getfield 49, 3) := by decide +kernel
theorem dX11_move_85 : decode cX11_move 85 = .ok (.iload_n 1, 1) := by decide +kernel
theorem dX11_move_86 : decode cX11_move 86 = .ok (.iaload, 1) := by decide +kernel
theorem dX11_move_87 : decode cX11_move 87 = .ok (.iload_n 2, 1) := by decide +kernel
theorem dX11_move_88 : decode cX11_move 88 = .ok (.isub, 1) := by decide +kernel
theorem dX11_move_89 : decode cX11_move 89 = .ok (.if_icmp .gt 17, 3) := by decide +kernel
theorem dX11_move_92 : decode cX11_move 92 = .ok (.iload 5, 2) := by decide +kernel
theorem dX11_move_94 : decode cX11_move 94 = .ok (.aload_n 0, 1) := by decide +kernel
theorem dX11_move_95 : decode cX11_move 95 = .ok (.getfield 49, 3) := by decide +kernel
theorem dX11_move_98 : decode cX11_move 98 = .ok (.iload_n 3, 1) := by decide +kernel
theorem dX11_move_99 : decode cX11_move 99 = .ok (.iaload, 1) := by decide +kernel
theorem dX11_move_100 : decode cX11_move 100 = .ok (.iload 4, 2) := by decide +kernel
theorem dX11_move_102 : decode cX11_move 102 = .ok (.isub, 1) := by decide +kernel
theorem dX11_move_103 : decode cX11_move 103 = .ok (.if_icmp .le 9, 3) := by decide +kernel
theorem dX11_move_112 : decode cX11_move 112 = .ok (.aload_n 0, 1) := by decide +kernel
theorem dX11_move_113 : decode cX11_move 113 = .ok (.getfield 52, 3) := by decide +kernel
theorem dX11_move_116 : decode cX11_move 116 = .ok (.iload_n 1, 1) := by decide +kernel
theorem dX11_move_117 : decode cX11_move 117 = .ok (.bipush 24, 2) := by decide +kernel
theorem dX11_move_119 : decode cX11_move 119 = .ok (.imul, 1) := by decide +kernel
theorem dX11_move_120 : decode cX11_move 120 = .ok (.iload_n 2, 1) := by decide +kernel
theorem dX11_move_121 : decode cX11_move 121 = .ok (.iadd, 1) := by decide +kernel
theorem dX11_move_122 : decode cX11_move 122 = .ok (.aload_n 0, 1) := by decide +kernel
theorem dX11_move_123 : decode cX11_move 123 = .ok (.getfield 52, 3) := by decide +kernel
theorem dX11_move_126 : decode cX11_move 126 = .ok (.iload_n 3, 1) := by decide +kernel
theorem dX11_move_127 : decode cX11_move 127 = .ok (.bipush 24, 2) := by decide +kernel
theorem dX11_move_129 : decode cX11_move 129 = .ok (.imul, 1) := by decide +kernel
theorem dX11_move_130 : decode cX11_move 130 = .ok (.iload 4, 2) := by decide +kernel
theorem dX11_move_132 : decode cX11_move 132 = .ok (.iadd, 1) := by decide +kernel
theorem dX11_move_133 : decode cX11_move 133 = .ok (.iload 5, 2) := by decide +kernel
theorem dX11_move_135 : decode cX11_move 135 = .ok (.invokestatic 355, 3) := by decide +kernel
theorem dX11_move_138 : decode cX11_move 138 = .ok (.iload 5, 2) := by decide +kernel
theorem dX11_move_140 : decode cX11_move 140 = .ok (.ireturn, 1) := by decide +kernel
theorem dX11_move_59 : decode cX11_move 59 = .ok (.aload_n 0, 1) := by decide +kernel
theorem dX11_move_60 : decode cX11_move 60 = .ok (.iconst 5, 1) := by decide +kernel
theorem dX11_move_61 : decode cX11_move 61 = .ok (.invokevirtual 66, 3) := by decide +kernel
theorem dX11_move_64 : decode cX11_move 64 = .ok (.ireturn, 1) := by decide +kernel
def D_X11_move_14 (N : Nat) (h : mh_H) (l0 : Nat) : Option (Int32 × mh_H) :=
  kO h 11 l0 <|
  (D_X11_error N h l0 (1 : Int32)).bind fun q1 =>
  some (q1.1, q1.2)
set_option maxHeartbeats 4000000 in
set_option maxRecDepth 100000 in
theorem T_X11_move_14 {P : mh_E → Prop} {N d : Nat} (hd : 3 ≤ d) {z : (Int32 × mh_H)} {h : mh_H} {l0 : Nat} (hq : D_X11_move_14 N h l0 = some z) : mh_go P d mX11_move 14 [some (.ref l0), none, none, none, none, none] [] h (some (.int z.1)) z.2 := by
  unfold D_X11_move_14 at hq
  refine st_aload_n (pc := 14) dX11_move_14 rfl ?_
  refine st_iconst (pc := 15) (v := (1 : Int32)) dX11_move_15 rfl ?_
  obtain ⟨⟨hbq1, hkq1⟩, hq⟩ := mh_oi hq
  obtain ⟨q1, e1, hq⟩ := mh_ob hq
  refine st_invV (pc := 16) (ci := 11) (vs := [.int (1 : Int32)]) (rest := []) (st2 := [.int q1.1]) dX11_move_16 okX11_error (by decide) hkq1 hbq1 wd_326 wd_328 wp_0 pdX11_error rfl rfl rfl rfl (Nat.le_trans (by decide) hd) (Nat.le_of_ble_eq_true rfl) (T_X11_error (Nat.le_refl _) e1) rfl ?_
  exact bd_iret (pc := 19) hq dX11_move_19 rfl
def D_X11_move_38 (N : Nat) (h : mh_H) (l0 : Nat) : Option (Int32 × mh_H) :=
  kO h 11 l0 <|
  (D_X11_error N h l0 (2 : Int32)).bind fun q1 =>
  some (q1.1, q1.2)
set_option maxHeartbeats 4000000 in
set_option maxRecDepth 100000 in
theorem T_X11_move_38 {P : mh_E → Prop} {N d : Nat} (hd : 3 ≤ d) {z : (Int32 × mh_H)} {h : mh_H} {l0 : Nat} (hq : D_X11_move_38 N h l0 = some z) : mh_go P d mX11_move 38 [some (.ref l0), none, none, none, none, none] [] h (some (.int z.1)) z.2 := by
  unfold D_X11_move_38 at hq
  refine st_aload_n (pc := 38) dX11_move_38 rfl ?_
  refine st_iconst (pc := 39) (v := (2 : Int32)) dX11_move_39 rfl ?_
  obtain ⟨⟨hbq1, hkq1⟩, hq⟩ := mh_oi hq
  obtain ⟨q1, e1, hq⟩ := mh_ob hq
  refine st_invV (pc := 40) (ci := 11) (vs := [.int (2 : Int32)]) (rest := []) (st2 := [.int q1.1]) dX11_move_40 okX11_error (by decide) hkq1 hbq1 wd_326 wd_328 wp_0 pdX11_error rfl rfl rfl rfl (Nat.le_trans (by decide) hd) (Nat.le_of_ble_eq_true rfl) (T_X11_error (Nat.le_refl _) e1) rfl ?_
  exact bd_iret (pc := 43) hq dX11_move_43 rfl
def D_X11_move_106 (N : Nat) (h : mh_H) (l0 : Nat) : Option (Int32 × mh_H) :=
  kO h 11 l0 <|
  (D_X11_error N h l0 (1 : Int32)).bind fun q1 =>
  some (q1.1, q1.2)
set_option maxHeartbeats 4000000 in
set_option maxRecDepth 100000 in
theorem T_X11_move_106 {P : mh_E → Prop} {N d : Nat} (hd : 3 ≤ d) {z : (Int32 × mh_H)} {h : mh_H} {l0 : Nat} (hq : D_X11_move_106 N h l0 = some z) : mh_go P d mX11_move 106 [some (.ref l0), none, none, none, none, none] [] h (some (.int z.1)) z.2 := by
  unfold D_X11_move_106 at hq
  refine st_aload_n (pc := 106) dX11_move_106 rfl ?_
  refine st_iconst (pc := 107) (v := (1 : Int32)) dX11_move_107 rfl ?_
  obtain ⟨⟨hbq1, hkq1⟩, hq⟩ := mh_oi hq
  obtain ⟨q1, e1, hq⟩ := mh_ob hq
  refine st_invV (pc := 108) (ci := 11) (vs := [.int (1 : Int32)]) (rest := []) (st2 := [.int q1.1]) dX11_move_108 okX11_error (by decide) hkq1 hbq1 wd_326 wd_328 wp_0 pdX11_error rfl rfl rfl rfl (Nat.le_trans (by decide) hd) (Nat.le_of_ble_eq_true rfl) (T_X11_error (Nat.le_refl _) e1) rfl ?_
  exact bd_iret (pc := 111) hq dX11_move_111 rfl
def D_X11_move (N : Nat) (h : mh_H) (l0 : Nat) (l1 : Int32) (l2 : Int32) (l3 : Int32) (l4 : Int32) (l5 : Int32) : Option (Int32 × mh_H) :=
  (D_X11_isSheet N h l1).bind fun q1 =>
  if q1.1 = 0 then (D_X11_move_14 N q1.2 l0)
  else ((D_X11_isSheet N q1.2 l3).bind fun q2 =>
  if q2.1 = 0 then (D_X11_move_14 N q2.2 l0)
  else ((gR q2.2 11 l0 6).bind fun v3 =>
  (aI q2.2 v3 l1).bind fun v4 =>
  if v4 = 0 then (D_X11_move_38 N q2.2 l0)
  else ((gR q2.2 11 l0 6).bind fun v5 =>
  (aI q2.2 v5 l3).bind fun v6 =>
  if v6 = 0 then (D_X11_move_38 N q2.2 l0)
  else ((gR q2.2 11 l0 6).bind fun v7 =>
  (aI q2.2 v7 l1).bind fun v8 =>
  (gR q2.2 11 l0 6).bind fun v9 =>
  (aI q2.2 v9 l3).bind fun v10 =>
  if v8 = v10 then (if l5 < 0 then (D_X11_move_106 N q2.2 l0)
  else (if l2 < 0 then (D_X11_move_106 N q2.2 l0)
  else (if l4 < 0 then (D_X11_move_106 N q2.2 l0)
  else ((gR q2.2 11 l0 7).bind fun v11 =>
  (aI q2.2 v11 l1).bind fun v12 =>
  if (v12 - l2) < l5 then (D_X11_move_106 N q2.2 l0)
  else ((gR q2.2 11 l0 7).bind fun v13 =>
  (aI q2.2 v13 l3).bind fun v14 =>
  if l5 ≤ (v14 - l4) then ((gR q2.2 11 l0 8).bind fun v15 =>
  (gR q2.2 11 l0 8).bind fun v16 =>
  (cP q2.2 v15 v16 ((l1 * (24 : Int32)) + l2) ((l3 * (24 : Int32)) + l4) l5).bind fun h17 =>
  some (l5, h17))
  else (D_X11_move_106 N q2.2 l0))))))
  else (kO q2.2 11 l0 <|
  (D_X11_error N q2.2 l0 (5 : Int32)).bind fun q11 =>
  some (q11.1, q11.2))))))
set_option maxHeartbeats 4000000 in
set_option maxRecDepth 100000 in
theorem T_X11_move {P : mh_E → Prop} {N d : Nat} (hd : 3 ≤ d) {z : (Int32 × mh_H)} {h : mh_H} {l0 : Nat} {l1 : Int32} {l2 : Int32} {l3 : Int32} {l4 : Int32} {l5 : Int32} (hq : D_X11_move N h l0 l1 l2 l3 l4 l5 = some z) : mh_go P d mX11_move 0 [some (.ref l0), some (.int l1), some (.int l2), some (.int l3), some (.int l4), some (.int l5)] [] h (some (.int z.1)) z.2 := by
  unfold D_X11_move at hq
  refine st_iload_n (pc := 0) dX11_move_0 rfl ?_
  obtain ⟨q1, e1, hq⟩ := mh_ob hq
  refine st_invS (pc := 1) (Y := mX11_isSheet) (vs := [.int l1]) (rest := []) (st2 := [.int q1.1]) dX11_move_1 okX11_isSheet wd_636 wd_637 pdX11_isSheet rfl rfl rfl rfl (Nat.le_trans (by decide) hd) (Nat.le_of_ble_eq_true rfl) (T_X11_isSheet (Nat.le_refl _) e1) rfl ?_
  refine bd_if_eq (pc := 4) (tgt := 14) hq dX11_move_4 (by decide) (fun _ hq => ?_) (fun _ hq => ?_)
  ·
    refine st_lesS (lv' := [some (.ref l0), none, none, none, none, none]) ⟨Or.inr rfl, Or.inl rfl, Or.inl rfl, Or.inl rfl, Or.inl rfl, Or.inl rfl, trivial⟩ ?_
    exact T_X11_move_14 hd hq
  ·
    refine st_iload_n (pc := 7) dX11_move_7 rfl ?_
    obtain ⟨q2, e2, hq⟩ := mh_ob hq
    refine st_invS (pc := 8) (Y := mX11_isSheet) (vs := [.int l3]) (rest := []) (st2 := [.int q2.1]) dX11_move_8 okX11_isSheet wd_636 wd_637 pdX11_isSheet rfl rfl rfl rfl (Nat.le_trans (by decide) hd) (Nat.le_of_ble_eq_true rfl) (T_X11_isSheet (Nat.le_refl _) e2) rfl ?_
    refine bd_if_ne (pc := 11) (tgt := 20) hq dX11_move_11 (by decide) (fun _ hq => ?_) (fun _ hq => ?_)
    ·
      refine st_lesS (lv' := [some (.ref l0), none, none, none, none, none]) ⟨Or.inr rfl, Or.inl rfl, Or.inl rfl, Or.inl rfl, Or.inl rfl, Or.inl rfl, trivial⟩ ?_
      exact T_X11_move_14 hd hq
    ·
      refine st_aload_n (pc := 20) dX11_move_20 rfl ?_
      refine bd_getr (pc := 21) hq dX11_move_21 fl_11_46_11 rfl (fun v3 hq => ?_)
      refine st_iload_n (pc := 24) dX11_move_24 rfl ?_
      refine bd_iald (pc := 25) hq dX11_move_25 (fun v4 hq => ?_)
      refine bd_if_eq (pc := 26) (tgt := 38) hq dX11_move_26 (by decide) (fun _ hq => ?_) (fun _ hq => ?_)
      ·
        refine st_lesS (lv' := [some (.ref l0), none, none, none, none, none]) ⟨Or.inr rfl, Or.inl rfl, Or.inl rfl, Or.inl rfl, Or.inl rfl, Or.inl rfl, trivial⟩ ?_
        exact T_X11_move_38 hd hq
      ·
        refine st_aload_n (pc := 29) dX11_move_29 rfl ?_
        refine bd_getr (pc := 30) hq dX11_move_30 fl_11_46_11 rfl (fun v5 hq => ?_)
        refine st_iload_n (pc := 33) dX11_move_33 rfl ?_
        refine bd_iald (pc := 34) hq dX11_move_34 (fun v6 hq => ?_)
        refine bd_if_ne (pc := 35) (tgt := 44) hq dX11_move_35 (by decide) (fun _ hq => ?_) (fun _ hq => ?_)
        ·
          refine st_lesS (lv' := [some (.ref l0), none, none, none, none, none]) ⟨Or.inr rfl, Or.inl rfl, Or.inl rfl, Or.inl rfl, Or.inl rfl, Or.inl rfl, trivial⟩ ?_
          exact T_X11_move_38 hd hq
        ·
          refine st_aload_n (pc := 44) dX11_move_44 rfl ?_
          refine bd_getr (pc := 45) hq dX11_move_45 fl_11_46_11 rfl (fun v7 hq => ?_)
          refine st_iload_n (pc := 48) dX11_move_48 rfl ?_
          refine bd_iald (pc := 49) hq dX11_move_49 (fun v8 hq => ?_)
          refine st_aload_n (pc := 50) dX11_move_50 rfl ?_
          refine bd_getr (pc := 51) hq dX11_move_51 fl_11_46_11 rfl (fun v9 hq => ?_)
          refine st_iload_n (pc := 54) dX11_move_54 rfl ?_
          refine bd_iald (pc := 55) hq dX11_move_55 (fun v10 hq => ?_)
          refine bd_icmp_eq (pc := 56) (tgt := 65) hq dX11_move_56 (by decide) (fun _ hq => ?_) (fun _ hq => ?_)
          ·
            refine st_iload (pc := 65) dX11_move_65 rfl ?_
            refine bd_if_lt (pc := 67) (tgt := 106) hq dX11_move_67 (by decide) (fun _ hq => ?_) (fun _ hq => ?_)
            ·
              refine st_lesS (lv' := [some (.ref l0), none, none, none, none, none]) ⟨Or.inr rfl, Or.inl rfl, Or.inl rfl, Or.inl rfl, Or.inl rfl, Or.inl rfl, trivial⟩ ?_
              exact T_X11_move_106 hd hq
            ·
              refine st_iload_n (pc := 70) dX11_move_70 rfl ?_
              refine bd_if_lt (pc := 71) (tgt := 106) hq dX11_move_71 (by decide) (fun _ hq => ?_) (fun _ hq => ?_)
              ·
                refine st_lesS (lv' := [some (.ref l0), none, none, none, none, none]) ⟨Or.inr rfl, Or.inl rfl, Or.inl rfl, Or.inl rfl, Or.inl rfl, Or.inl rfl, trivial⟩ ?_
                exact T_X11_move_106 hd hq
              ·
                refine st_iload (pc := 74) dX11_move_74 rfl ?_
                refine bd_if_lt (pc := 76) (tgt := 106) hq dX11_move_76 (by decide) (fun _ hq => ?_) (fun _ hq => ?_)
                ·
                  refine st_lesS (lv' := [some (.ref l0), none, none, none, none, none]) ⟨Or.inr rfl, Or.inl rfl, Or.inl rfl, Or.inl rfl, Or.inl rfl, Or.inl rfl, trivial⟩ ?_
                  exact T_X11_move_106 hd hq
                ·
                  refine st_iload (pc := 79) dX11_move_79 rfl ?_
                  refine st_aload_n (pc := 81) dX11_move_81 rfl ?_
                  refine bd_getr (pc := 82) hq dX11_move_82 fl_11_49_11 rfl (fun v11 hq => ?_)
                  refine st_iload_n (pc := 85) dX11_move_85 rfl ?_
                  refine bd_iald (pc := 86) hq dX11_move_86 (fun v12 hq => ?_)
                  refine st_iload_n (pc := 87) dX11_move_87 rfl ?_
                  refine st_isub (pc := 88) dX11_move_88 ?_
                  refine bd_icmp_gt (pc := 89) (tgt := 106) hq dX11_move_89 (by decide) (fun _ hq => ?_) (fun _ hq => ?_)
                  ·
                    refine st_lesS (lv' := [some (.ref l0), none, none, none, none, none]) ⟨Or.inr rfl, Or.inl rfl, Or.inl rfl, Or.inl rfl, Or.inl rfl, Or.inl rfl, trivial⟩ ?_
                    exact T_X11_move_106 hd hq
                  ·
                    refine st_iload (pc := 92) dX11_move_92 rfl ?_
                    refine st_aload_n (pc := 94) dX11_move_94 rfl ?_
                    refine bd_getr (pc := 95) hq dX11_move_95 fl_11_49_11 rfl (fun v13 hq => ?_)
                    refine st_iload_n (pc := 98) dX11_move_98 rfl ?_
                    refine bd_iald (pc := 99) hq dX11_move_99 (fun v14 hq => ?_)
                    refine st_iload (pc := 100) dX11_move_100 rfl ?_
                    refine st_isub (pc := 102) dX11_move_102 ?_
                    refine bd_icmp_le (pc := 103) (tgt := 112) hq dX11_move_103 (by decide) (fun _ hq => ?_) (fun _ hq => ?_)
                    ·
                      refine st_aload_n (pc := 112) dX11_move_112 rfl ?_
                      refine bd_getr (pc := 113) hq dX11_move_113 fl_11_52_11 rfl (fun v15 hq => ?_)
                      refine st_iload_n (pc := 116) dX11_move_116 rfl ?_
                      refine st_bipush (pc := 117) (v := (24 : Int32)) dX11_move_117 (by decide) ?_
                      refine st_imul (pc := 119) dX11_move_119 ?_
                      refine st_iload_n (pc := 120) dX11_move_120 rfl ?_
                      refine st_iadd (pc := 121) dX11_move_121 ?_
                      refine st_aload_n (pc := 122) dX11_move_122 rfl ?_
                      refine bd_getr (pc := 123) hq dX11_move_123 fl_11_52_11 rfl (fun v16 hq => ?_)
                      refine st_iload_n (pc := 126) dX11_move_126 rfl ?_
                      refine st_bipush (pc := 127) (v := (24 : Int32)) dX11_move_127 (by decide) ?_
                      refine st_imul (pc := 129) dX11_move_129 ?_
                      refine st_iload (pc := 130) dX11_move_130 rfl ?_
                      refine st_iadd (pc := 132) dX11_move_132 ?_
                      refine st_iload (pc := 133) dX11_move_133 rfl ?_
                      refine bd_copy (pc := 135) hq dX11_move_135 wd_1126 wd_678 wd_677 wd_16 (Nat.le_trans (by decide) hd) (Nat.le_of_ble_eq_true rfl) (fun h17 hq => ?_)
                      refine st_iload (pc := 138) dX11_move_138 rfl ?_
                      exact bd_iret (pc := 140) hq dX11_move_140 rfl
                    ·
                      refine st_lesS (lv' := [some (.ref l0), none, none, none, none, none]) ⟨Or.inr rfl, Or.inl rfl, Or.inl rfl, Or.inl rfl, Or.inl rfl, Or.inl rfl, trivial⟩ ?_
                      exact T_X11_move_106 hd hq
          ·
            refine st_aload_n (pc := 59) dX11_move_59 rfl ?_
            refine st_iconst (pc := 60) (v := (5 : Int32)) dX11_move_60 rfl ?_
            obtain ⟨⟨hbq11, hkq11⟩, hq⟩ := mh_oi hq
            obtain ⟨q11, e11, hq⟩ := mh_ob hq
            refine st_invV (pc := 61) (ci := 11) (vs := [.int (5 : Int32)]) (rest := []) (st2 := [.int q11.1]) dX11_move_61 okX11_error (by decide) hkq11 hbq11 wd_326 wd_328 wp_0 pdX11_error rfl rfl rfl rfl (Nat.le_trans (by decide) hd) (Nat.le_of_ble_eq_true rfl) (T_X11_error (Nat.le_refl _) e11) rfl ?_
            exact bd_iret (pc := 64) hq dX11_move_64 rfl
-- HoleWater$Looks.copyOf(LHoleWater$Looks;)V
theorem dX1_copyOf_0 : decode cX1_copyOf 0 = .ok (.aload_n 0, 1) := by decide +kernel
theorem dX1_copyOf_1 : decode cX1_copyOf 1 = .ok (.aload_n 1, 1) := by decide +kernel
theorem dX1_copyOf_2 : decode cX1_copyOf 2 = .ok (.getfield 9, 3) := by decide +kernel
theorem dX1_copyOf_5 : decode cX1_copyOf 5 = .ok (.putfield 9, 3) := by decide +kernel
theorem dX1_copyOf_8 : decode cX1_copyOf 8 = .ok (.aload_n 0, 1) := by decide +kernel
theorem dX1_copyOf_9 : decode cX1_copyOf 9 = .ok (.aload_n 1, 1) := by decide +kernel
theorem dX1_copyOf_10 : decode cX1_copyOf 10 = .ok (.getfield 15, 3) := by decide +kernel
theorem dX1_copyOf_13 : decode cX1_copyOf 13 = .ok (.putfield 15, 3) := by decide +kernel
theorem dX1_copyOf_16 : decode cX1_copyOf 16 = .ok (.aload_n 1, 1) := by decide +kernel
theorem dX1_copyOf_17 : decode cX1_copyOf 17 = .ok (.getfield 18, 3) := by decide +kernel
theorem dX1_copyOf_20 : decode cX1_copyOf 20 = .ok (.iconst 0, 1) := by decide +kernel
theorem dX1_copyOf_21 : decode cX1_copyOf 21 = .ok (.aload_n 0, 1) := by decide +kernel
theorem dX1_copyOf_22 : decode cX1_copyOf 22 = .ok (.getfield 18, 3) := by decide +kernel
theorem dX1_copyOf_25 : decode cX1_copyOf 25 = .ok (.iconst 0, 1) := by decide +kernel
theorem dX1_copyOf_26 : decode cX1_copyOf 26 = .ok (.aload_n 0, 1) := by decide +kernel
theorem dX1_copyOf_27 : decode cX1_copyOf 27 = .ok (.getfield 18, 3) := by decide +kernel
theorem dX1_copyOf_30 : decode cX1_copyOf 30 = .ok (.arraylength, 1) := by decide +kernel
theorem dX1_copyOf_31 : decode cX1_copyOf 31 = .ok (.invokestatic 37, 3) := by decide +kernel
theorem dX1_copyOf_34 : decode cX1_copyOf 34 = .ok (.aload_n 1, 1) := by decide +kernel
theorem dX1_copyOf_35 : decode cX1_copyOf 35 = .ok (.getfield 22, 3) := by decide +kernel
theorem dX1_copyOf_38 : decode cX1_copyOf 38 = .ok (.iconst 0, 1) := by decide +kernel
theorem dX1_copyOf_39 : decode cX1_copyOf 39 = .ok (.aload_n 0, 1) := by decide +kernel
theorem dX1_copyOf_40 : decode cX1_copyOf 40 = .ok (.getfield 22, 3) := by decide +kernel
theorem dX1_copyOf_43 : decode cX1_copyOf 43 = .ok (.iconst 0, 1) := by decide +kernel
theorem dX1_copyOf_44 : decode cX1_copyOf 44 = .ok (.aload_n 0, 1) := by decide +kernel
theorem dX1_copyOf_45 : decode cX1_copyOf 45 = .ok (.getfield 22, 3) := by decide +kernel
theorem dX1_copyOf_48 : decode cX1_copyOf 48 = .ok (.arraylength, 1) := by decide +kernel
theorem dX1_copyOf_49 : decode cX1_copyOf 49 = .ok (.invokestatic 37, 3) := by decide +kernel
theorem dX1_copyOf_52 : decode cX1_copyOf 52 = .ok (.return_, 1) := by decide +kernel
def D_X1_copyOf (N : Nat) (h : mh_H) (l0 : Nat) (l1 : Nat) : Option mh_H :=
  (gI h 1 l1 0).bind fun v1 =>
  (pI h 1 l0 0 v1).bind fun h2 =>
  (gI h2 1 l1 1).bind fun v3 =>
  (pI h2 1 l0 1 v3).bind fun h4 =>
  (gR h4 1 l1 2).bind fun v5 =>
  (gR h4 1 l0 2).bind fun v6 =>
  (gR h4 1 l0 2).bind fun v7 =>
  (aL h4 v7).bind fun v8 =>
  (cP h4 v5 v6 (0 : Int32) (0 : Int32) v8).bind fun h9 =>
  (gR h9 1 l1 3).bind fun v10 =>
  (gR h9 1 l0 3).bind fun v11 =>
  (gR h9 1 l0 3).bind fun v12 =>
  (aL h9 v12).bind fun v13 =>
  (cP h9 v10 v11 (0 : Int32) (0 : Int32) v13).bind fun h14 =>
  some h14
set_option maxHeartbeats 4000000 in
set_option maxRecDepth 100000 in
theorem T_X1_copyOf {P : mh_E → Prop} {N d : Nat} (hd : 1 ≤ d) {z : mh_H} {h : mh_H} {l0 : Nat} {l1 : Nat} (hq : D_X1_copyOf N h l0 l1 = some z) : mh_go P d mX1_copyOf 0 [some (.ref l0), some (.ref l1)] [] h none z := by
  unfold D_X1_copyOf at hq
  refine st_aload_n (pc := 0) dX1_copyOf_0 rfl ?_
  refine st_aload_n (pc := 1) dX1_copyOf_1 rfl ?_
  refine bd_geti (pc := 2) hq dX1_copyOf_2 fl_1_9_1 rfl (fun v1 hq => ?_)
  refine bd_puti (pc := 5) hq dX1_copyOf_5 fl_1_9_1 (Or.inl rfl) rfl (fun h2 hq => ?_)
  refine st_aload_n (pc := 8) dX1_copyOf_8 rfl ?_
  refine st_aload_n (pc := 9) dX1_copyOf_9 rfl ?_
  refine bd_geti (pc := 10) hq dX1_copyOf_10 fl_1_15_1 rfl (fun v3 hq => ?_)
  refine bd_puti (pc := 13) hq dX1_copyOf_13 fl_1_15_1 (Or.inl rfl) rfl (fun h4 hq => ?_)
  refine st_aload_n (pc := 16) dX1_copyOf_16 rfl ?_
  refine bd_getr (pc := 17) hq dX1_copyOf_17 fl_1_18_1 rfl (fun v5 hq => ?_)
  refine st_iconst (pc := 20) (v := (0 : Int32)) dX1_copyOf_20 rfl ?_
  refine st_aload_n (pc := 21) dX1_copyOf_21 rfl ?_
  refine bd_getr (pc := 22) hq dX1_copyOf_22 fl_1_18_1 rfl (fun v6 hq => ?_)
  refine st_iconst (pc := 25) (v := (0 : Int32)) dX1_copyOf_25 rfl ?_
  refine st_aload_n (pc := 26) dX1_copyOf_26 rfl ?_
  refine bd_getr (pc := 27) hq dX1_copyOf_27 fl_1_18_1 rfl (fun v7 hq => ?_)
  refine bd_alen (pc := 30) hq dX1_copyOf_30 (fun v8 hq => ?_)
  refine bd_copy (pc := 31) hq dX1_copyOf_31 wd_1141 wd_678 wd_677 wd_16 (Nat.le_trans (by decide) hd) (Nat.le_of_ble_eq_true rfl) (fun h9 hq => ?_)
  refine st_aload_n (pc := 34) dX1_copyOf_34 rfl ?_
  refine bd_getr (pc := 35) hq dX1_copyOf_35 fl_1_22_1 rfl (fun v10 hq => ?_)
  refine st_iconst (pc := 38) (v := (0 : Int32)) dX1_copyOf_38 rfl ?_
  refine st_aload_n (pc := 39) dX1_copyOf_39 rfl ?_
  refine bd_getr (pc := 40) hq dX1_copyOf_40 fl_1_22_1 rfl (fun v11 hq => ?_)
  refine st_iconst (pc := 43) (v := (0 : Int32)) dX1_copyOf_43 rfl ?_
  refine st_aload_n (pc := 44) dX1_copyOf_44 rfl ?_
  refine bd_getr (pc := 45) hq dX1_copyOf_45 fl_1_22_1 rfl (fun v12 hq => ?_)
  refine bd_alen (pc := 48) hq dX1_copyOf_48 (fun v13 hq => ?_)
  refine bd_copy (pc := 49) hq dX1_copyOf_49 wd_1141 wd_678 wd_677 wd_16 (Nat.le_trans (by decide) hd) (Nat.le_of_ble_eq_true rfl) (fun h14 hq => ?_)
  exact bd_vret (pc := 52) hq dX1_copyOf_52 rfl
-- HoleWater$World.copyOf(LHoleWater$World;)V
theorem dX10_copyOf_71 : decode cX10_copyOf 71 = .ok (.iload_n 2, 1) := by decide +kernel
theorem dX10_copyOf_72 : decode cX10_copyOf 72 = .ok (.bipush 24, 2) := by decide +kernel
theorem dX10_copyOf_74 : decode cX10_copyOf 74 = .ok (.if_icmp .ge 21, 3) := by decide +kernel
theorem dX10_copyOf_95 : decode cX10_copyOf 95 = .ok (.aload_n 0, 1) := by decide +kernel
theorem dX10_copyOf_96 : decode cX10_copyOf 96 = .ok (.getfield 40, 3) := by decide +kernel
theorem dX10_copyOf_99 : decode cX10_copyOf 99 = .ok (.aload_n 1, 1) := by decide +kernel
theorem dX10_copyOf_100 : decode cX10_copyOf 100 = .ok (.getfield 40, 3) := by decide +kernel
theorem dX10_copyOf_103 : decode cX10_copyOf 103 = .ok (.invokevirtual 78, 3) := by decide +kernel
theorem dX10_copyOf_106 : decode cX10_copyOf 106 = .ok (.aload_n 0, 1) := by decide +kernel
theorem dX10_copyOf_107 : decode cX10_copyOf 107 = .ok (.getfield 47, 3) := by decide +kernel
theorem dX10_copyOf_110 : decode cX10_copyOf 110 = .ok (.aload_n 1, 1) := by decide +kernel
theorem dX10_copyOf_111 : decode cX10_copyOf 111 = .ok (.getfield 47, 3) := by decide +kernel
theorem dX10_copyOf_114 : decode cX10_copyOf 114 = .ok (.invokevirtual 82, 3) := by decide +kernel
theorem dX10_copyOf_117 : decode cX10_copyOf 117 = .ok (.aload_n 0, 1) := by decide +kernel
theorem dX10_copyOf_118 : decode cX10_copyOf 118 = .ok (.getfield 56, 3) := by decide +kernel
theorem dX10_copyOf_121 : decode cX10_copyOf 121 = .ok (.aload_n 1, 1) := by decide +kernel
theorem dX10_copyOf_122 : decode cX10_copyOf 122 = .ok (.getfield 56, 3) := by decide +kernel
theorem dX10_copyOf_125 : decode cX10_copyOf 125 = .ok (.invokevirtual 85, 3) := by decide +kernel
theorem dX10_copyOf_128 : decode cX10_copyOf 128 = .ok (.aload_n 0, 1) := by decide +kernel
theorem dX10_copyOf_129 : decode cX10_copyOf 129 = .ok (.getfield 60, 3) := by decide +kernel
theorem dX10_copyOf_132 : decode cX10_copyOf 132 = .ok (.aload_n 1, 1) := by decide +kernel
theorem dX10_copyOf_133 : decode cX10_copyOf 133 = .ok (.getfield 60, 3) := by decide +kernel
theorem dX10_copyOf_136 : decode cX10_copyOf 136 = .ok (.invokevirtual 85, 3) := by decide +kernel
theorem dX10_copyOf_139 : decode cX10_copyOf 139 = .ok (.aload_n 0, 1) := by decide +kernel
theorem dX10_copyOf_140 : decode cX10_copyOf 140 = .ok (.getfield 63, 3) := by decide +kernel
theorem dX10_copyOf_143 : decode cX10_copyOf 143 = .ok (.aload_n 1, 1) := by decide +kernel
theorem dX10_copyOf_144 : decode cX10_copyOf 144 = .ok (.getfield 63, 3) := by decide +kernel
theorem dX10_copyOf_147 : decode cX10_copyOf 147 = .ok (.invokevirtual 85, 3) := by decide +kernel
theorem dX10_copyOf_150 : decode cX10_copyOf 150 = .ok (.aload_n 0, 1) := by decide +kernel
theorem dX10_copyOf_151 : decode cX10_copyOf 151 = .ok (.getfield 66, 3) := by decide +kernel
theorem dX10_copyOf_154 : decode cX10_copyOf 154 = .ok (.aload_n 1, 1) := by decide +kernel
theorem dX10_copyOf_155 : decode cX10_copyOf 155 = .ok (.getfield 66, 3) := by decide +kernel
theorem dX10_copyOf_158 : decode cX10_copyOf 158 = .ok (.invokevirtual 85, 3) := by decide +kernel
theorem dX10_copyOf_161 : decode cX10_copyOf 161 = .ok (.return_, 1) := by decide +kernel
theorem dX10_copyOf_77 : decode cX10_copyOf 77 = .ok (.aload_n 0, 1) := by decide +kernel
theorem dX10_copyOf_78 : decode cX10_copyOf 78 = .ok (.getfield 33, 3) := by decide +kernel
theorem dX10_copyOf_81 : decode cX10_copyOf 81 = .ok (.iload_n 2, 1) := by decide +kernel
theorem dX10_copyOf_82 : decode cX10_copyOf 82 = .ok (.aload_n 1, 1) := by decide +kernel
theorem dX10_copyOf_83 : decode cX10_copyOf 83 = .ok (.getfield 33, 3) := by decide +kernel
theorem dX10_copyOf_86 : decode cX10_copyOf 86 = .ok (.iload_n 2, 1) := by decide +kernel
theorem dX10_copyOf_87 : decode cX10_copyOf 87 = .ok (.aaload, 1) := by decide +kernel
theorem dX10_copyOf_88 : decode cX10_copyOf 88 = .ok (.aastore, 1) := by decide +kernel
theorem dX10_copyOf_89 : decode cX10_copyOf 89 = .ok (.iinc 2 1, 3) := by decide +kernel
theorem dX10_copyOf_92 : decode cX10_copyOf 92 = .ok (.goto (-21), 3) := by decide +kernel
theorem dX10_copyOf_0 : decode cX10_copyOf 0 = .ok (.aload_n 0, 1) := by decide +kernel
theorem dX10_copyOf_1 : decode cX10_copyOf 1 = .ok (.aload_n 1, 1) := by decide +kernel
theorem dX10_copyOf_2 : decode cX10_copyOf 2 = .ok (.getfield 9, 3) := by decide +kernel
theorem dX10_copyOf_5 : decode cX10_copyOf 5 = .ok (.putfield 9, 3) := by decide +kernel
theorem dX10_copyOf_8 : decode cX10_copyOf 8 = .ok (.aload_n 0, 1) := by decide +kernel
theorem dX10_copyOf_9 : decode cX10_copyOf 9 = .ok (.aload_n 1, 1) := by decide +kernel
theorem dX10_copyOf_10 : decode cX10_copyOf 10 = .ok (.getfield 15, 3) := by decide +kernel
theorem dX10_copyOf_13 : decode cX10_copyOf 13 = .ok (.putfield 15, 3) := by decide +kernel
theorem dX10_copyOf_16 : decode cX10_copyOf 16 = .ok (.aload_n 0, 1) := by decide +kernel
theorem dX10_copyOf_17 : decode cX10_copyOf 17 = .ok (.aload_n 1, 1) := by decide +kernel
theorem dX10_copyOf_18 : decode cX10_copyOf 18 = .ok (.getfield 18, 3) := by decide +kernel
theorem dX10_copyOf_21 : decode cX10_copyOf 21 = .ok (.putfield 18, 3) := by decide +kernel
theorem dX10_copyOf_24 : decode cX10_copyOf 24 = .ok (.aload_n 1, 1) := by decide +kernel
theorem dX10_copyOf_25 : decode cX10_copyOf 25 = .ok (.getfield 21, 3) := by decide +kernel
theorem dX10_copyOf_28 : decode cX10_copyOf 28 = .ok (.iconst 0, 1) := by decide +kernel
theorem dX10_copyOf_29 : decode cX10_copyOf 29 = .ok (.aload_n 0, 1) := by decide +kernel
theorem dX10_copyOf_30 : decode cX10_copyOf 30 = .ok (.getfield 21, 3) := by decide +kernel
theorem dX10_copyOf_33 : decode cX10_copyOf 33 = .ok (.iconst 0, 1) := by decide +kernel
theorem dX10_copyOf_34 : decode cX10_copyOf 34 = .ok (.bipush 16, 2) := by decide +kernel
theorem dX10_copyOf_36 : decode cX10_copyOf 36 = .ok (.invokestatic 72, 3) := by decide +kernel
theorem dX10_copyOf_39 : decode cX10_copyOf 39 = .ok (.aload_n 1, 1) := by decide +kernel
theorem dX10_copyOf_40 : decode cX10_copyOf 40 = .ok (.getfield 25, 3) := by decide +kernel
theorem dX10_copyOf_43 : decode cX10_copyOf 43 = .ok (.iconst 0, 1) := by decide +kernel
theorem dX10_copyOf_44 : decode cX10_copyOf 44 = .ok (.aload_n 0, 1) := by decide +kernel
theorem dX10_copyOf_45 : decode cX10_copyOf 45 = .ok (.getfield 25, 3) := by decide +kernel
theorem dX10_copyOf_48 : decode cX10_copyOf 48 = .ok (.iconst 0, 1) := by decide +kernel
theorem dX10_copyOf_49 : decode cX10_copyOf 49 = .ok (.bipush 16, 2) := by decide +kernel
theorem dX10_copyOf_51 : decode cX10_copyOf 51 = .ok (.invokestatic 72, 3) := by decide +kernel
theorem dX10_copyOf_54 : decode cX10_copyOf 54 = .ok (.aload_n 1, 1) := by decide +kernel
theorem dX10_copyOf_55 : decode cX10_copyOf 55 = .ok (.getfield 28, 3) := by decide +kernel
theorem dX10_copyOf_58 : decode cX10_copyOf 58 = .ok (.iconst 0, 1) := by decide +kernel
theorem dX10_copyOf_59 : decode cX10_copyOf 59 = .ok (.aload_n 0, 1) := by decide +kernel
theorem dX10_copyOf_60 : decode cX10_copyOf 60 = .ok (.getfield 28, 3) := by decide +kernel
theorem dX10_copyOf_63 : decode cX10_copyOf 63 = .ok (.iconst 0, 1) := by decide +kernel
theorem dX10_copyOf_64 : decode cX10_copyOf 64 = .ok (.bipush 16, 2) := by decide +kernel
theorem dX10_copyOf_66 : decode cX10_copyOf 66 = .ok (.invokestatic 72, 3) := by decide +kernel
theorem dX10_copyOf_69 : decode cX10_copyOf 69 = .ok (.iconst 0, 1) := by decide +kernel
theorem dX10_copyOf_70 : decode cX10_copyOf 70 = .ok (.istore_n 2, 1) := by decide +kernel
def D_X10_copyOf_71 (N : Nat) : Nat → mh_H → Nat → Nat → Int32 → Option mh_H
  | 0, _, _, _, _ => none
  | F + 1, h, l0, l1, l2 =>
    if (24 : Int32) ≤ l2 then ((gR h 10 l0 7).bind fun v1 =>
    (gR h 10 l1 7).bind fun v2 =>
    kO h 8 v1 <|
    (D_X8_copyOf N h v1 v2).bind fun q3 =>
    (gR q3 10 l0 8).bind fun v4 =>
    (gR q3 10 l1 8).bind fun v5 =>
    kO q3 1 v4 <|
    (D_X1_copyOf N q3 v4 v5).bind fun q6 =>
    (gR q6 10 l0 9).bind fun v7 =>
    (gR q6 10 l1 9).bind fun v8 =>
    kO q6 6 v7 <|
    (D_X6_copyOf N q6 v7 v8).bind fun q9 =>
    (gR q9 10 l0 10).bind fun v10 =>
    (gR q9 10 l1 10).bind fun v11 =>
    kO q9 6 v10 <|
    (D_X6_copyOf N q9 v10 v11).bind fun q12 =>
    (gR q12 10 l0 11).bind fun v13 =>
    (gR q12 10 l1 11).bind fun v14 =>
    kO q12 6 v13 <|
    (D_X6_copyOf N q12 v13 v14).bind fun q15 =>
    (gR q15 10 l0 12).bind fun v16 =>
    (gR q15 10 l1 12).bind fun v17 =>
    kO q15 6 v16 <|
    (D_X6_copyOf N q15 v16 v17).bind fun q18 =>
    some q18)
    else ((gR h 10 l0 6).bind fun v1 =>
    (gR h 10 l1 6).bind fun v2 =>
    (aR h v2 l2).bind fun v3 =>
    (uR h v1 l2 v3).bind fun h4 =>
    (D_X10_copyOf_71 N F) h4 l0 l1 (l2 + Int32.ofInt (1)))
set_option maxHeartbeats 4000000 in
set_option maxRecDepth 100000 in
theorem T_X10_copyOf_71 {P : mh_E → Prop} {N d : Nat} (hd : 2 ≤ d) {z : mh_H} : ∀ (F : Nat) (h : mh_H) (l0 : Nat) (l1 : Nat) (l2 : Int32), D_X10_copyOf_71 N F h l0 l1 l2 = some z → mh_go P d mX10_copyOf 71 [some (.ref l0), some (.ref l1), some (.int l2)] [] h none z := by
  intro F
  induction F with
  | zero => intro h l0 l1 l2 hq; rw [D_X10_copyOf_71] at hq; cases hq
  | succ F ih =>
    intro h l0 l1 l2 hq
    rw [D_X10_copyOf_71] at hq
    refine st_iload_n (pc := 71) dX10_copyOf_71 rfl ?_
    refine st_bipush (pc := 72) (v := (24 : Int32)) dX10_copyOf_72 (by decide) ?_
    refine bd_icmp_ge (pc := 74) (tgt := 95) hq dX10_copyOf_74 (by decide) (fun _ hq => ?_) (fun _ hq => ?_)
    ·
      refine st_aload_n (pc := 95) dX10_copyOf_95 rfl ?_
      refine bd_getr (pc := 96) hq dX10_copyOf_96 fl_10_40_10 rfl (fun v1 hq => ?_)
      refine st_aload_n (pc := 99) dX10_copyOf_99 rfl ?_
      refine bd_getr (pc := 100) hq dX10_copyOf_100 fl_10_40_10 rfl (fun v2 hq => ?_)
      obtain ⟨⟨hbq3, hkq3⟩, hq⟩ := mh_oi hq
      obtain ⟨q3, e3, hq⟩ := mh_ob hq
      refine st_invV (pc := 103) (ci := 8) (vs := [.ref v2]) (rest := []) (st2 := []) dX10_copyOf_103 okX8_copyOf (by decide) hkq3 hbq3 wd_1136 wd_673 wd_674 pdX8_copyOf rfl rfl rfl rfl (Nat.le_trans (by decide) hd) (Nat.le_of_ble_eq_true rfl) (T_X8_copyOf (Nat.le_refl _) e3) rfl ?_
      refine st_aload_n (pc := 106) dX10_copyOf_106 rfl ?_
      refine bd_getr (pc := 107) hq dX10_copyOf_107 fl_10_47_10 rfl (fun v4 hq => ?_)
      refine st_aload_n (pc := 110) dX10_copyOf_110 rfl ?_
      refine bd_getr (pc := 111) hq dX10_copyOf_111 fl_10_47_10 rfl (fun v5 hq => ?_)
      obtain ⟨⟨hbq6, hkq6⟩, hq⟩ := mh_oi hq
      obtain ⟨q6, e6, hq⟩ := mh_ob hq
      refine st_invV (pc := 114) (ci := 1) (vs := [.ref v5]) (rest := []) (st2 := []) dX10_copyOf_114 okX1_copyOf (by decide) hkq6 hbq6 wd_1137 wd_1138 wd_1139 pdX1_copyOf rfl rfl rfl rfl (Nat.le_trans (by decide) hd) (Nat.le_of_ble_eq_true rfl) (T_X1_copyOf (Nat.le_refl _) e6) rfl ?_
      refine st_aload_n (pc := 117) dX10_copyOf_117 rfl ?_
      refine bd_getr (pc := 118) hq dX10_copyOf_118 fl_10_56_10 rfl (fun v7 hq => ?_)
      refine st_aload_n (pc := 121) dX10_copyOf_121 rfl ?_
      refine bd_getr (pc := 122) hq dX10_copyOf_122 fl_10_56_10 rfl (fun v8 hq => ?_)
      obtain ⟨⟨hbq9, hkq9⟩, hq⟩ := mh_oi hq
      obtain ⟨q9, e9, hq⟩ := mh_ob hq
      refine st_invV (pc := 125) (ci := 6) (vs := [.ref v8]) (rest := []) (st2 := []) dX10_copyOf_125 okX6_copyOf (by decide) hkq9 hbq9 wd_1142 wd_821 wd_822 pdX6_copyOf rfl rfl rfl rfl (Nat.le_trans (by decide) hd) (Nat.le_of_ble_eq_true rfl) (T_X6_copyOf (Nat.le_refl _) e9) rfl ?_
      refine st_aload_n (pc := 128) dX10_copyOf_128 rfl ?_
      refine bd_getr (pc := 129) hq dX10_copyOf_129 fl_10_60_10 rfl (fun v10 hq => ?_)
      refine st_aload_n (pc := 132) dX10_copyOf_132 rfl ?_
      refine bd_getr (pc := 133) hq dX10_copyOf_133 fl_10_60_10 rfl (fun v11 hq => ?_)
      obtain ⟨⟨hbq12, hkq12⟩, hq⟩ := mh_oi hq
      obtain ⟨q12, e12, hq⟩ := mh_ob hq
      refine st_invV (pc := 136) (ci := 6) (vs := [.ref v11]) (rest := []) (st2 := []) dX10_copyOf_136 okX6_copyOf (by decide) hkq12 hbq12 wd_1142 wd_821 wd_822 pdX6_copyOf rfl rfl rfl rfl (Nat.le_trans (by decide) hd) (Nat.le_of_ble_eq_true rfl) (T_X6_copyOf (Nat.le_refl _) e12) rfl ?_
      refine st_aload_n (pc := 139) dX10_copyOf_139 rfl ?_
      refine bd_getr (pc := 140) hq dX10_copyOf_140 fl_10_63_10 rfl (fun v13 hq => ?_)
      refine st_aload_n (pc := 143) dX10_copyOf_143 rfl ?_
      refine bd_getr (pc := 144) hq dX10_copyOf_144 fl_10_63_10 rfl (fun v14 hq => ?_)
      obtain ⟨⟨hbq15, hkq15⟩, hq⟩ := mh_oi hq
      obtain ⟨q15, e15, hq⟩ := mh_ob hq
      refine st_invV (pc := 147) (ci := 6) (vs := [.ref v14]) (rest := []) (st2 := []) dX10_copyOf_147 okX6_copyOf (by decide) hkq15 hbq15 wd_1142 wd_821 wd_822 pdX6_copyOf rfl rfl rfl rfl (Nat.le_trans (by decide) hd) (Nat.le_of_ble_eq_true rfl) (T_X6_copyOf (Nat.le_refl _) e15) rfl ?_
      refine st_aload_n (pc := 150) dX10_copyOf_150 rfl ?_
      refine bd_getr (pc := 151) hq dX10_copyOf_151 fl_10_66_10 rfl (fun v16 hq => ?_)
      refine st_aload_n (pc := 154) dX10_copyOf_154 rfl ?_
      refine bd_getr (pc := 155) hq dX10_copyOf_155 fl_10_66_10 rfl (fun v17 hq => ?_)
      obtain ⟨⟨hbq18, hkq18⟩, hq⟩ := mh_oi hq
      obtain ⟨q18, e18, hq⟩ := mh_ob hq
      refine st_invV (pc := 158) (ci := 6) (vs := [.ref v17]) (rest := []) (st2 := []) dX10_copyOf_158 okX6_copyOf (by decide) hkq18 hbq18 wd_1142 wd_821 wd_822 pdX6_copyOf rfl rfl rfl rfl (Nat.le_trans (by decide) hd) (Nat.le_of_ble_eq_true rfl) (T_X6_copyOf (Nat.le_refl _) e18) rfl ?_
      exact bd_vret (pc := 161) hq dX10_copyOf_161 rfl
    ·
      refine st_aload_n (pc := 77) dX10_copyOf_77 rfl ?_
      refine bd_getr (pc := 78) hq dX10_copyOf_78 fl_10_33_10 rfl (fun v1 hq => ?_)
      refine st_iload_n (pc := 81) dX10_copyOf_81 rfl ?_
      refine st_aload_n (pc := 82) dX10_copyOf_82 rfl ?_
      refine bd_getr (pc := 83) hq dX10_copyOf_83 fl_10_33_10 rfl (fun v2 hq => ?_)
      refine st_iload_n (pc := 86) dX10_copyOf_86 rfl ?_
      refine bd_aald (pc := 87) hq dX10_copyOf_87 (fun v3 hq => ?_)
      refine bd_aast (pc := 88) hq dX10_copyOf_88 (fun h4 hq => ?_)
      refine st_iinc (pc := 89) (lv' := [some (.ref l0), some (.ref l1), some (.int (l2 + Int32.ofInt (1)))]) dX10_copyOf_89 rfl rfl (by decide) rfl ?_
      refine st_goto (pc := 92) (tgt := 71) dX10_copyOf_92 (by decide) ?_
      exact ih _ _ _ _ hq
def D_X10_copyOf (N : Nat) (h : mh_H) (l0 : Nat) (l1 : Nat) : Option mh_H :=
  (gI h 10 l1 0).bind fun v1 =>
  (pI h 10 l0 0 v1).bind fun h2 =>
  (gI h2 10 l1 1).bind fun v3 =>
  (pI h2 10 l0 1 v3).bind fun h4 =>
  (gI h4 10 l1 2).bind fun v5 =>
  (pI h4 10 l0 2 v5).bind fun h6 =>
  (gR h6 10 l1 3).bind fun v7 =>
  (gR h6 10 l0 3).bind fun v8 =>
  (cP h6 v7 v8 (0 : Int32) (0 : Int32) (16 : Int32)).bind fun h9 =>
  (gR h9 10 l1 4).bind fun v10 =>
  (gR h9 10 l0 4).bind fun v11 =>
  (cP h9 v10 v11 (0 : Int32) (0 : Int32) (16 : Int32)).bind fun h12 =>
  (gR h12 10 l1 5).bind fun v13 =>
  (gR h12 10 l0 5).bind fun v14 =>
  (cP h12 v13 v14 (0 : Int32) (0 : Int32) (16 : Int32)).bind fun h15 =>
  D_X10_copyOf_71 N N h15 l0 l1 (0 : Int32)
set_option maxHeartbeats 4000000 in
set_option maxRecDepth 100000 in
theorem T_X10_copyOf {P : mh_E → Prop} {N d : Nat} (hd : 2 ≤ d) {z : mh_H} {h : mh_H} {l0 : Nat} {l1 : Nat} (hq : D_X10_copyOf N h l0 l1 = some z) : mh_go P d mX10_copyOf 0 [some (.ref l0), some (.ref l1), none] [] h none z := by
  unfold D_X10_copyOf at hq
  refine st_aload_n (pc := 0) dX10_copyOf_0 rfl ?_
  refine st_aload_n (pc := 1) dX10_copyOf_1 rfl ?_
  refine bd_geti (pc := 2) hq dX10_copyOf_2 fl_10_9_10 rfl (fun v1 hq => ?_)
  refine bd_puti (pc := 5) hq dX10_copyOf_5 fl_10_9_10 (Or.inl rfl) rfl (fun h2 hq => ?_)
  refine st_aload_n (pc := 8) dX10_copyOf_8 rfl ?_
  refine st_aload_n (pc := 9) dX10_copyOf_9 rfl ?_
  refine bd_geti (pc := 10) hq dX10_copyOf_10 fl_10_15_10 rfl (fun v3 hq => ?_)
  refine bd_puti (pc := 13) hq dX10_copyOf_13 fl_10_15_10 (Or.inl rfl) rfl (fun h4 hq => ?_)
  refine st_aload_n (pc := 16) dX10_copyOf_16 rfl ?_
  refine st_aload_n (pc := 17) dX10_copyOf_17 rfl ?_
  refine bd_geti (pc := 18) hq dX10_copyOf_18 fl_10_18_10 rfl (fun v5 hq => ?_)
  refine bd_puti (pc := 21) hq dX10_copyOf_21 fl_10_18_10 (Or.inl rfl) rfl (fun h6 hq => ?_)
  refine st_aload_n (pc := 24) dX10_copyOf_24 rfl ?_
  refine bd_getr (pc := 25) hq dX10_copyOf_25 fl_10_21_10 rfl (fun v7 hq => ?_)
  refine st_iconst (pc := 28) (v := (0 : Int32)) dX10_copyOf_28 rfl ?_
  refine st_aload_n (pc := 29) dX10_copyOf_29 rfl ?_
  refine bd_getr (pc := 30) hq dX10_copyOf_30 fl_10_21_10 rfl (fun v8 hq => ?_)
  refine st_iconst (pc := 33) (v := (0 : Int32)) dX10_copyOf_33 rfl ?_
  refine st_bipush (pc := 34) (v := (16 : Int32)) dX10_copyOf_34 (by decide) ?_
  refine bd_copy (pc := 36) hq dX10_copyOf_36 wd_1135 wd_678 wd_677 wd_16 (Nat.le_trans (by decide) hd) (Nat.le_of_ble_eq_true rfl) (fun h9 hq => ?_)
  refine st_aload_n (pc := 39) dX10_copyOf_39 rfl ?_
  refine bd_getr (pc := 40) hq dX10_copyOf_40 fl_10_25_10 rfl (fun v10 hq => ?_)
  refine st_iconst (pc := 43) (v := (0 : Int32)) dX10_copyOf_43 rfl ?_
  refine st_aload_n (pc := 44) dX10_copyOf_44 rfl ?_
  refine bd_getr (pc := 45) hq dX10_copyOf_45 fl_10_25_10 rfl (fun v11 hq => ?_)
  refine st_iconst (pc := 48) (v := (0 : Int32)) dX10_copyOf_48 rfl ?_
  refine st_bipush (pc := 49) (v := (16 : Int32)) dX10_copyOf_49 (by decide) ?_
  refine bd_copy (pc := 51) hq dX10_copyOf_51 wd_1135 wd_678 wd_677 wd_16 (Nat.le_trans (by decide) hd) (Nat.le_of_ble_eq_true rfl) (fun h12 hq => ?_)
  refine st_aload_n (pc := 54) dX10_copyOf_54 rfl ?_
  refine bd_getr (pc := 55) hq dX10_copyOf_55 fl_10_28_10 rfl (fun v13 hq => ?_)
  refine st_iconst (pc := 58) (v := (0 : Int32)) dX10_copyOf_58 rfl ?_
  refine st_aload_n (pc := 59) dX10_copyOf_59 rfl ?_
  refine bd_getr (pc := 60) hq dX10_copyOf_60 fl_10_28_10 rfl (fun v14 hq => ?_)
  refine st_iconst (pc := 63) (v := (0 : Int32)) dX10_copyOf_63 rfl ?_
  refine st_bipush (pc := 64) (v := (16 : Int32)) dX10_copyOf_64 (by decide) ?_
  refine bd_copy (pc := 66) hq dX10_copyOf_66 wd_1135 wd_678 wd_677 wd_16 (Nat.le_trans (by decide) hd) (Nat.le_of_ble_eq_true rfl) (fun h15 hq => ?_)
  refine st_iconst (pc := 69) (v := (0 : Int32)) dX10_copyOf_69 rfl ?_
  refine st_istore_n (pc := 70) (lv' := [some (.ref l0), some (.ref l1), some (.int (0 : Int32))]) dX10_copyOf_70 rfl (by decide) rfl ?_
  exact T_X10_copyOf_71 hd N _ _ _ _ hq
-- HoleWater.image()I
theorem dX11_image_0 : decode cX11_image 0 = .ok (.aload_n 0, 1) := by decide +kernel
theorem dX11_image_1 : decode cX11_image 1 = .ok (.getfield 16, 3) := by decide +kernel
theorem dX11_image_4 : decode cX11_image 4 = .ok (.aload_n 0, 1) := by decide +kernel
theorem dX11_image_5 : decode cX11_image 5 = .ok (.getfield 12, 3) := by decide +kernel
theorem dX11_image_8 : decode cX11_image 8 = .ok (.invokevirtual 361, 3) := by decide +kernel
theorem dX11_image_11 : decode cX11_image 11 = .ok (.aload_n 0, 1) := by decide +kernel
theorem dX11_image_12 : decode cX11_image 12 = .ok (.dup, 1) := by decide +kernel
theorem dX11_image_13 : decode cX11_image 13 = .ok (.getfield 58, 3) := by decide +kernel
theorem dX11_image_16 : decode cX11_image 16 = .ok (.iconst 1, 1) := by decide +kernel
theorem dX11_image_17 : decode cX11_image 17 = .ok (.iadd, 1) := by decide +kernel
theorem dX11_image_18 : decode cX11_image 18 = .ok (.putfield 58, 3) := by decide +kernel
theorem dX11_image_21 : decode cX11_image 21 = .ok (.aload_n 0, 1) := by decide +kernel
theorem dX11_image_22 : decode cX11_image 22 = .ok (.getfield 58, 3) := by decide +kernel
theorem dX11_image_25 : decode cX11_image 25 = .ok (.ireturn, 1) := by decide +kernel
def D_X11_image (N : Nat) (h : mh_H) (l0 : Nat) : Option (Int32 × mh_H) :=
  (gR h 11 l0 1).bind fun v1 =>
  (gR h 11 l0 0).bind fun v2 =>
  kO h 10 v1 <|
  (D_X10_copyOf N h v1 v2).bind fun q3 =>
  (gI q3 11 l0 10).bind fun v4 =>
  (pI q3 11 l0 10 (v4 + (1 : Int32))).bind fun h5 =>
  (gI h5 11 l0 10).bind fun v6 =>
  some (v6, h5)
set_option maxHeartbeats 4000000 in
set_option maxRecDepth 100000 in
theorem T_X11_image {P : mh_E → Prop} {N d : Nat} (hd : 3 ≤ d) {z : (Int32 × mh_H)} {h : mh_H} {l0 : Nat} (hq : D_X11_image N h l0 = some z) : mh_go P d mX11_image 0 [some (.ref l0)] [] h (some (.int z.1)) z.2 := by
  unfold D_X11_image at hq
  refine st_aload_n (pc := 0) dX11_image_0 rfl ?_
  refine bd_getr (pc := 1) hq dX11_image_1 fl_11_16_11 rfl (fun v1 hq => ?_)
  refine st_aload_n (pc := 4) dX11_image_4 rfl ?_
  refine bd_getr (pc := 5) hq dX11_image_5 fl_11_12_11 rfl (fun v2 hq => ?_)
  obtain ⟨⟨hbq3, hkq3⟩, hq⟩ := mh_oi hq
  obtain ⟨q3, e3, hq⟩ := mh_ob hq
  refine st_invV (pc := 8) (ci := 10) (vs := [.ref v2]) (rest := []) (st2 := []) dX11_image_8 okX10_copyOf (by decide) hkq3 hbq3 wd_1131 wd_1132 wd_1133 pdX10_copyOf rfl rfl rfl rfl (Nat.le_trans (by decide) hd) (Nat.le_of_ble_eq_true rfl) (T_X10_copyOf (Nat.le_refl _) e3) rfl ?_
  refine st_aload_n (pc := 11) dX11_image_11 rfl ?_
  refine st_dup (pc := 12) dX11_image_12 rfl ?_
  refine bd_geti (pc := 13) hq dX11_image_13 fl_11_58_11 rfl (fun v4 hq => ?_)
  refine st_iconst (pc := 16) (v := (1 : Int32)) dX11_image_16 rfl ?_
  refine st_iadd (pc := 17) dX11_image_17 ?_
  refine bd_puti (pc := 18) hq dX11_image_18 fl_11_58_11 (Or.inl rfl) rfl (fun h5 hq => ?_)
  refine st_aload_n (pc := 21) dX11_image_21 rfl ?_
  refine bd_geti (pc := 22) hq dX11_image_22 fl_11_58_11 rfl (fun v6 hq => ?_)
  exact bd_iret (pc := 25) hq dX11_image_25 rfl
-- HoleWater.restore()I
theorem dX11_restore_0 : decode cX11_restore 0 = .ok (.aload_n 0, 1) := by decide +kernel
theorem dX11_restore_1 : decode cX11_restore 1 = .ok (.getfield 58, 3) := by decide +kernel
theorem dX11_restore_4 : decode cX11_restore 4 = .ok (.ifCond .ne 9, 3) := by decide +kernel
theorem dX11_restore_7 : decode cX11_restore 7 = .ok (.aload_n 0, 1) := by decide +kernel
theorem dX11_restore_8 : decode cX11_restore 8 = .ok (.iconst 2, 1) := by decide +kernel
theorem dX11_restore_9 : decode cX11_restore 9 = .ok (.invokevirtual 66, 3) := by decide +kernel
theorem dX11_restore_12 : decode cX11_restore 12 = .ok (.ireturn, 1) := by decide +kernel
theorem dX11_restore_13 : decode cX11_restore 13 = .ok (.aload_n 0, 1) := by decide +kernel
theorem dX11_restore_14 : decode cX11_restore 14 = .ok (.getfield 12, 3) := by decide +kernel
theorem dX11_restore_17 : decode cX11_restore 17 = .ok (.aload_n 0, 1) := by decide +kernel
theorem dX11_restore_18 : decode cX11_restore 18 = .ok (.getfield 16, 3) := by decide +kernel
theorem dX11_restore_21 : decode cX11_restore 21 = .ok (.invokevirtual 361, 3) := by decide +kernel
theorem dX11_restore_24 : decode cX11_restore 24 = .ok (.aload_n 0, 1) := by decide +kernel
theorem dX11_restore_25 : decode cX11_restore 25 = .ok (.getfield 12, 3) := by decide +kernel
theorem dX11_restore_28 : decode cX11_restore 28 = .ok (.getfield 90, 3) := by decide +kernel
theorem dX11_restore_31 : decode cX11_restore 31 = .ok (.getfield 189, 3) := by decide +kernel
theorem dX11_restore_34 : decode cX11_restore 34 = .ok (.ireturn, 1) := by decide +kernel
def D_X11_restore (N : Nat) (h : mh_H) (l0 : Nat) : Option (Int32 × mh_H) :=
  (gI h 11 l0 10).bind fun v1 =>
  if v1 = 0 then (kO h 11 l0 <|
  (D_X11_error N h l0 (2 : Int32)).bind fun q2 =>
  some (q2.1, q2.2))
  else ((gR h 11 l0 0).bind fun v2 =>
  (gR h 11 l0 1).bind fun v3 =>
  kO h 10 v2 <|
  (D_X10_copyOf N h v2 v3).bind fun q4 =>
  (gR q4 11 l0 0).bind fun v5 =>
  (gR q4 10 v5 7).bind fun v6 =>
  (gI q4 8 v6 0).bind fun v7 =>
  some (v7, q4))
set_option maxHeartbeats 4000000 in
set_option maxRecDepth 100000 in
theorem T_X11_restore {P : mh_E → Prop} {N d : Nat} (hd : 3 ≤ d) {z : (Int32 × mh_H)} {h : mh_H} {l0 : Nat} (hq : D_X11_restore N h l0 = some z) : mh_go P d mX11_restore 0 [some (.ref l0)] [] h (some (.int z.1)) z.2 := by
  unfold D_X11_restore at hq
  refine st_aload_n (pc := 0) dX11_restore_0 rfl ?_
  refine bd_geti (pc := 1) hq dX11_restore_1 fl_11_58_11 rfl (fun v1 hq => ?_)
  refine bd_if_ne (pc := 4) (tgt := 13) hq dX11_restore_4 (by decide) (fun _ hq => ?_) (fun _ hq => ?_)
  ·
    refine st_aload_n (pc := 7) dX11_restore_7 rfl ?_
    refine st_iconst (pc := 8) (v := (2 : Int32)) dX11_restore_8 rfl ?_
    obtain ⟨⟨hbq2, hkq2⟩, hq⟩ := mh_oi hq
    obtain ⟨q2, e2, hq⟩ := mh_ob hq
    refine st_invV (pc := 9) (ci := 11) (vs := [.int (2 : Int32)]) (rest := []) (st2 := [.int q2.1]) dX11_restore_9 okX11_error (by decide) hkq2 hbq2 wd_326 wd_328 wp_0 pdX11_error rfl rfl rfl rfl (Nat.le_trans (by decide) hd) (Nat.le_of_ble_eq_true rfl) (T_X11_error (Nat.le_refl _) e2) rfl ?_
    exact bd_iret (pc := 12) hq dX11_restore_12 rfl
  ·
    refine st_aload_n (pc := 13) dX11_restore_13 rfl ?_
    refine bd_getr (pc := 14) hq dX11_restore_14 fl_11_12_11 rfl (fun v2 hq => ?_)
    refine st_aload_n (pc := 17) dX11_restore_17 rfl ?_
    refine bd_getr (pc := 18) hq dX11_restore_18 fl_11_16_11 rfl (fun v3 hq => ?_)
    obtain ⟨⟨hbq4, hkq4⟩, hq⟩ := mh_oi hq
    obtain ⟨q4, e4, hq⟩ := mh_ob hq
    refine st_invV (pc := 21) (ci := 10) (vs := [.ref v3]) (rest := []) (st2 := []) dX11_restore_21 okX10_copyOf (by decide) hkq4 hbq4 wd_1131 wd_1132 wd_1133 pdX10_copyOf rfl rfl rfl rfl (Nat.le_trans (by decide) hd) (Nat.le_of_ble_eq_true rfl) (T_X10_copyOf (Nat.le_refl _) e4) rfl ?_
    refine st_aload_n (pc := 24) dX11_restore_24 rfl ?_
    refine bd_getr (pc := 25) hq dX11_restore_25 fl_11_12_11 rfl (fun v5 hq => ?_)
    refine bd_getr (pc := 28) hq dX11_restore_28 fl_11_90_10 rfl (fun v6 hq => ?_)
    refine bd_geti (pc := 31) hq dX11_restore_31 fl_11_189_8 rfl (fun v7 hq => ?_)
    exact bd_iret (pc := 34) hq dX11_restore_34 rfl
-- HoleWater.tell(I)I
theorem dX11_tell_0 : decode cX11_tell 0 = .ok (.aload_n 0, 1) := by decide +kernel
theorem dX11_tell_1 : decode cX11_tell 1 = .ok (.getfield 12, 3) := by decide +kernel
theorem dX11_tell_4 : decode cX11_tell 4 = .ok (.getfield 364, 3) := by decide +kernel
theorem dX11_tell_7 : decode cX11_tell 7 = .ok (.iload_n 1, 1) := by decide +kernel
theorem dX11_tell_8 : decode cX11_tell 8 = .ok (.invokevirtual 236, 3) := by decide +kernel
theorem dX11_tell_11 : decode cX11_tell 11 = .ok (.ifCond .ne 9, 3) := by decide +kernel
theorem dX11_tell_14 : decode cX11_tell 14 = .ok (.aload_n 0, 1) := by decide +kernel
theorem dX11_tell_15 : decode cX11_tell 15 = .ok (.iconst 4, 1) := by decide +kernel
theorem dX11_tell_16 : decode cX11_tell 16 = .ok (.invokevirtual 66, 3) := by decide +kernel
theorem dX11_tell_19 : decode cX11_tell 19 = .ok (.ireturn, 1) := by decide +kernel
theorem dX11_tell_20 : decode cX11_tell 20 = .ok (.aload_n 0, 1) := by decide +kernel
theorem dX11_tell_21 : decode cX11_tell 21 = .ok (.getfield 12, 3) := by decide +kernel
theorem dX11_tell_24 : decode cX11_tell 24 = .ok (.getfield 364, 3) := by decide +kernel
theorem dX11_tell_27 : decode cX11_tell 27 = .ok (.getfield 233, 3) := by decide +kernel
theorem dX11_tell_30 : decode cX11_tell 30 = .ok (.ireturn, 1) := by decide +kernel
def D_X11_tell (N : Nat) (h : mh_H) (l0 : Nat) (l1 : Int32) : Option (Int32 × mh_H) :=
  (gR h 11 l0 0).bind fun v1 =>
  (gR h 10 v1 12).bind fun v2 =>
  kO h 6 v2 <|
  (D_X6_add N h v2 l1).bind fun q3 =>
  if q3.1 = 0 then (kO q3.2 11 l0 <|
  (D_X11_error N q3.2 l0 (4 : Int32)).bind fun q4 =>
  some (q4.1, q4.2))
  else ((gR q3.2 11 l0 0).bind fun v4 =>
  (gR q3.2 10 v4 12).bind fun v5 =>
  (gI q3.2 6 v5 1).bind fun v6 =>
  some (v6, q3.2))
set_option maxHeartbeats 4000000 in
set_option maxRecDepth 100000 in
theorem T_X11_tell {P : mh_E → Prop} {N d : Nat} (hd : 3 ≤ d) {z : (Int32 × mh_H)} {h : mh_H} {l0 : Nat} {l1 : Int32} (hq : D_X11_tell N h l0 l1 = some z) : mh_go P d mX11_tell 0 [some (.ref l0), some (.int l1)] [] h (some (.int z.1)) z.2 := by
  unfold D_X11_tell at hq
  refine st_aload_n (pc := 0) dX11_tell_0 rfl ?_
  refine bd_getr (pc := 1) hq dX11_tell_1 fl_11_12_11 rfl (fun v1 hq => ?_)
  refine bd_getr (pc := 4) hq dX11_tell_4 fl_11_364_10 rfl (fun v2 hq => ?_)
  refine st_iload_n (pc := 7) dX11_tell_7 rfl ?_
  obtain ⟨⟨hbq3, hkq3⟩, hq⟩ := mh_oi hq
  obtain ⟨q3, e3, hq⟩ := mh_ob hq
  refine st_invV (pc := 8) (ci := 6) (vs := [.int l1]) (rest := []) (st2 := [.int q3.1]) dX11_tell_8 okX6_add (by decide) hkq3 hbq3 wd_687 wd_688 wd_689 pdX6_add rfl rfl rfl rfl (Nat.le_trans (by decide) hd) (Nat.le_of_ble_eq_true rfl) (T_X6_add (Nat.le_refl _) e3) rfl ?_
  refine bd_if_ne (pc := 11) (tgt := 20) hq dX11_tell_11 (by decide) (fun _ hq => ?_) (fun _ hq => ?_)
  ·
    refine st_aload_n (pc := 14) dX11_tell_14 rfl ?_
    refine st_iconst (pc := 15) (v := (4 : Int32)) dX11_tell_15 rfl ?_
    obtain ⟨⟨hbq4, hkq4⟩, hq⟩ := mh_oi hq
    obtain ⟨q4, e4, hq⟩ := mh_ob hq
    refine st_invV (pc := 16) (ci := 11) (vs := [.int (4 : Int32)]) (rest := []) (st2 := [.int q4.1]) dX11_tell_16 okX11_error (by decide) hkq4 hbq4 wd_326 wd_328 wp_0 pdX11_error rfl rfl rfl rfl (Nat.le_trans (by decide) hd) (Nat.le_of_ble_eq_true rfl) (T_X11_error (Nat.le_refl _) e4) rfl ?_
    exact bd_iret (pc := 19) hq dX11_tell_19 rfl
  ·
    refine st_aload_n (pc := 20) dX11_tell_20 rfl ?_
    refine bd_getr (pc := 21) hq dX11_tell_21 fl_11_12_11 rfl (fun v4 hq => ?_)
    refine bd_getr (pc := 24) hq dX11_tell_24 fl_11_364_10 rfl (fun v5 hq => ?_)
    refine bd_geti (pc := 27) hq dX11_tell_27 fl_11_233_6 rfl (fun v6 hq => ?_)
    exact bd_iret (pc := 30) hq dX11_tell_30 rfl
-- HoleWater.check(I)I
theorem dX11_check_72 : decode cX11_check 72 = .ok (.iload_n 3, 1) := by decide +kernel
theorem dX11_check_73 : decode cX11_check 73 = .ok (.iload_n 2, 1) := by decide +kernel
theorem dX11_check_74 : decode cX11_check 74 = .ok (.if_icmp .ge 51, 3) := by decide +kernel
theorem dX11_check_125 : decode cX11_check 125 = .ok (.iconst 0, 1) := by decide +kernel
theorem dX11_check_126 : decode cX11_check 126 = .ok (.ireturn, 1) := by decide +kernel
theorem dX11_check_77 : decode cX11_check 77 = .ok (.aload_n 0, 1) := by decide +kernel
theorem dX11_check_78 : decode cX11_check 78 = .ok (.getfield 22, 3) := by decide +kernel
theorem dX11_check_81 : decode cX11_check 81 = .ok (.aload_n 0, 1) := by decide +kernel
theorem dX11_check_82 : decode cX11_check 82 = .ok (.getfield 12, 3) := by decide +kernel
theorem dX11_check_85 : decode cX11_check 85 = .ok (.aload_n 0, 1) := by decide +kernel
theorem dX11_check_86 : decode cX11_check 86 = .ok (.getfield 29, 3) := by decide +kernel
theorem dX11_check_89 : decode cX11_check 89 = .ok (.invokevirtual 192, 3) := by decide +kernel
theorem dX11_check_92 : decode cX11_check 92 = .ok (.aload_n 0, 1) := by decide +kernel
theorem dX11_check_93 : decode cX11_check 93 = .ok (.getfield 22, 3) := by decide +kernel
theorem dX11_check_96 : decode cX11_check 96 = .ok (.getfield 96, 3) := by decide +kernel
theorem dX11_check_99 : decode cX11_check 99 = .ok (.iload_n 1, 1) := by decide +kernel
theorem dX11_check_100 : decode cX11_check 100 = .ok (.iaload, 1) := by decide +kernel
theorem dX11_check_101 : decode cX11_check 101 = .ok (.aload_n 0, 1) := by decide +kernel
theorem dX11_check_102 : decode cX11_check 102 = .ok (.getfield 12, 3) := by decide +kernel
theorem dX11_check_105 : decode cX11_check 105 = .ok (.getfield 364, 3) := by decide +kernel
theorem dX11_check_108 : decode cX11_check 108 = .ok (.iload_n 3, 1) := by decide +kernel
theorem dX11_check_109 : decode cX11_check 109 = .ok (.invokevirtual 349, 3) := by decide +kernel
theorem dX11_check_112 : decode cX11_check 112 = .ok (.if_icmp .eq 7, 3) := by decide +kernel
theorem dX11_check_119 : decode cX11_check 119 = .ok (.iinc 3 1, 3) := by decide +kernel
theorem dX11_check_122 : decode cX11_check 122 = .ok (.goto (-50), 3) := by decide +kernel
theorem dX11_check_115 : decode cX11_check 115 = .ok (.iconst 1, 1) := by decide +kernel
theorem dX11_check_116 : decode cX11_check 116 = .ok (.iload_n 3, 1) := by decide +kernel
theorem dX11_check_117 : decode cX11_check 117 = .ok (.iadd, 1) := by decide +kernel
theorem dX11_check_118 : decode cX11_check 118 = .ok (.ireturn, 1) := by decide +kernel
theorem dX11_check_0 : decode cX11_check 0 = .ok (.aload_n 0, 1) := by decide +kernel
theorem dX11_check_1 : decode cX11_check 1 = .ok (.getfield 12, 3) := by decide +kernel
theorem dX11_check_4 : decode cX11_check 4 = .ok (.getfield 364, 3) := by decide +kernel
theorem dX11_check_7 : decode cX11_check 7 = .ok (.getfield 233, 3) := by decide +kernel
theorem dX11_check_10 : decode cX11_check 10 = .ok (.istore_n 2, 1) := by decide +kernel
theorem dX11_check_11 : decode cX11_check 11 = .ok (.aload_n 0, 1) := by decide +kernel
theorem dX11_check_12 : decode cX11_check 12 = .ok (.getfield 12, 3) := by decide +kernel
theorem dX11_check_15 : decode cX11_check 15 = .ok (.getfield 364, 3) := by decide +kernel
theorem dX11_check_18 : decode cX11_check 18 = .ok (.iconst 0, 1) := by decide +kernel
theorem dX11_check_19 : decode cX11_check 19 = .ok (.putfield 233, 3) := by decide +kernel
theorem dX11_check_22 : decode cX11_check 22 = .ok (.aload_n 0, 1) := by decide +kernel
theorem dX11_check_23 : decode cX11_check 23 = .ok (.getfield 12, 3) := by decide +kernel
theorem dX11_check_26 : decode cX11_check 26 = .ok (.iload_n 1, 1) := by decide +kernel
theorem dX11_check_27 : decode cX11_check 27 = .ok (.invokevirtual 77, 3) := by decide +kernel
theorem dX11_check_30 : decode cX11_check 30 = .ok (.ifCond .ne 9, 3) := by decide +kernel
theorem dX11_check_33 : decode cX11_check 33 = .ok (.aload_n 0, 1) := by decide +kernel
theorem dX11_check_34 : decode cX11_check 34 = .ok (.iconst 1, 1) := by decide +kernel
theorem dX11_check_35 : decode cX11_check 35 = .ok (.invokevirtual 66, 3) := by decide +kernel
theorem dX11_check_38 : decode cX11_check 38 = .ok (.ireturn, 1) := by decide +kernel
theorem dX11_check_39 : decode cX11_check 39 = .ok (.aload_n 0, 1) := by decide +kernel
theorem dX11_check_40 : decode cX11_check 40 = .ok (.getfield 12, 3) := by decide +kernel
theorem dX11_check_43 : decode cX11_check 43 = .ok (.iload_n 1, 1) := by decide +kernel
theorem dX11_check_44 : decode cX11_check 44 = .ok (.invokevirtual 109, 3) := by decide +kernel
theorem dX11_check_47 : decode cX11_check 47 = .ok (.ifCond .ne 9, 3) := by decide +kernel
theorem dX11_check_50 : decode cX11_check 50 = .ok (.aload_n 0, 1) := by decide +kernel
theorem dX11_check_51 : decode cX11_check 51 = .ok (.iconst 5, 1) := by decide +kernel
theorem dX11_check_52 : decode cX11_check 52 = .ok (.invokevirtual 66, 3) := by decide +kernel
theorem dX11_check_55 : decode cX11_check 55 = .ok (.ireturn, 1) := by decide +kernel
theorem dX11_check_56 : decode cX11_check 56 = .ok (.aload_n 0, 1) := by decide +kernel
theorem dX11_check_57 : decode cX11_check 57 = .ok (.getfield 22, 3) := by decide +kernel
theorem dX11_check_60 : decode cX11_check 60 = .ok (.aload_n 0, 1) := by decide +kernel
theorem dX11_check_61 : decode cX11_check 61 = .ok (.getfield 12, 3) := by decide +kernel
theorem dX11_check_64 : decode cX11_check 64 = .ok (.getfield 90, 3) := by decide +kernel
theorem dX11_check_67 : decode cX11_check 67 = .ok (.invokevirtual 367, 3) := by decide +kernel
theorem dX11_check_70 : decode cX11_check 70 = .ok (.iconst 0, 1) := by decide +kernel
theorem dX11_check_71 : decode cX11_check 71 = .ok (.istore_n 3, 1) := by decide +kernel
def D_X11_check_72 (N : Nat) : Nat → mh_H → Nat → Int32 → Int32 → Int32 → Option (Int32 × mh_H)
  | 0, _, _, _, _, _ => none
  | F + 1, h, l0, l1, l2, l3 =>
    if l2 ≤ l3 then (some ((0 : Int32), h))
    else ((gR h 11 l0 2).bind fun v1 =>
    (gR h 11 l0 0).bind fun v2 =>
    (gR h 11 l0 3).bind fun v3 =>
    kO h 8 v1 <|
    (D_X8_passHour N h v1 v2 v3).bind fun q4 =>
    (gR q4 11 l0 2).bind fun v5 =>
    (gR q4 8 v5 8).bind fun v6 =>
    (aI q4 v6 l1).bind fun v7 =>
    (gR q4 11 l0 0).bind fun v8 =>
    (gR q4 10 v8 12).bind fun v9 =>
    kO q4 6 v9 <|
    (D_X6_get N q4 v9 l3).bind fun q10 =>
    if v7 = q10.1 then ((D_X11_check_72 N F) q10.2 l0 l1 l2 (l3 + Int32.ofInt (1)))
    else (some ((1 : Int32) + l3, q10.2)))
set_option maxHeartbeats 4000000 in
set_option maxRecDepth 100000 in
theorem T_X11_check_72 {P : mh_E → Prop} {N d : Nat} (hd : 7 ≤ d) {z : (Int32 × mh_H)} : ∀ (F : Nat) (h : mh_H) (l0 : Nat) (l1 : Int32) (l2 : Int32) (l3 : Int32), D_X11_check_72 N F h l0 l1 l2 l3 = some z → mh_go P d mX11_check 72 [some (.ref l0), some (.int l1), some (.int l2), some (.int l3)] [] h (some (.int z.1)) z.2 := by
  intro F
  induction F with
  | zero => intro h l0 l1 l2 l3 hq; rw [D_X11_check_72] at hq; cases hq
  | succ F ih =>
    intro h l0 l1 l2 l3 hq
    rw [D_X11_check_72] at hq
    refine st_iload_n (pc := 72) dX11_check_72 rfl ?_
    refine st_iload_n (pc := 73) dX11_check_73 rfl ?_
    refine bd_icmp_ge (pc := 74) (tgt := 125) hq dX11_check_74 (by decide) (fun _ hq => ?_) (fun _ hq => ?_)
    ·
      refine st_iconst (pc := 125) (v := (0 : Int32)) dX11_check_125 rfl ?_
      exact bd_iret (pc := 126) hq dX11_check_126 rfl
    ·
      refine st_aload_n (pc := 77) dX11_check_77 rfl ?_
      refine bd_getr (pc := 78) hq dX11_check_78 fl_11_22_11 rfl (fun v1 hq => ?_)
      refine st_aload_n (pc := 81) dX11_check_81 rfl ?_
      refine bd_getr (pc := 82) hq dX11_check_82 fl_11_12_11 rfl (fun v2 hq => ?_)
      refine st_aload_n (pc := 85) dX11_check_85 rfl ?_
      refine bd_getr (pc := 86) hq dX11_check_86 fl_11_29_11 rfl (fun v3 hq => ?_)
      obtain ⟨⟨hbq4, hkq4⟩, hq⟩ := mh_oi hq
      obtain ⟨q4, e4, hq⟩ := mh_ob hq
      refine st_invV (pc := 89) (ci := 8) (vs := [.ref v2, .ref v3]) (rest := []) (st2 := []) dX11_check_89 okX8_passHour (by decide) hkq4 hbq4 wd_513 wd_514 wd_515 pdX8_passHour rfl rfl rfl rfl (Nat.le_trans (by decide) hd) (Nat.le_of_ble_eq_true rfl) (T_X8_passHour (Nat.le_refl _) e4) rfl ?_
      refine st_aload_n (pc := 92) dX11_check_92 rfl ?_
      refine bd_getr (pc := 93) hq dX11_check_93 fl_11_22_11 rfl (fun v5 hq => ?_)
      refine bd_getr (pc := 96) hq dX11_check_96 fl_11_96_8 rfl (fun v6 hq => ?_)
      refine st_iload_n (pc := 99) dX11_check_99 rfl ?_
      refine bd_iald (pc := 100) hq dX11_check_100 (fun v7 hq => ?_)
      refine st_aload_n (pc := 101) dX11_check_101 rfl ?_
      refine bd_getr (pc := 102) hq dX11_check_102 fl_11_12_11 rfl (fun v8 hq => ?_)
      refine bd_getr (pc := 105) hq dX11_check_105 fl_11_364_10 rfl (fun v9 hq => ?_)
      refine st_iload_n (pc := 108) dX11_check_108 rfl ?_
      obtain ⟨⟨hbq10, hkq10⟩, hq⟩ := mh_oi hq
      obtain ⟨q10, e10, hq⟩ := mh_ob hq
      refine st_invV (pc := 109) (ci := 6) (vs := [.int l3]) (rest := [.int v7]) (st2 := [.int q10.1, .int v7]) dX11_check_109 okX6_get (by decide) hkq10 hbq10 wd_1110 wd_551 wd_552 pdX6_get rfl rfl rfl rfl (Nat.le_trans (by decide) hd) (Nat.le_of_ble_eq_true rfl) (T_X6_get (Nat.le_refl _) e10) rfl ?_
      refine bd_icmp_eq (pc := 112) (tgt := 119) hq dX11_check_112 (by decide) (fun _ hq => ?_) (fun _ hq => ?_)
      ·
        refine st_iinc (pc := 119) (lv' := [some (.ref l0), some (.int l1), some (.int l2), some (.int (l3 + Int32.ofInt (1)))]) dX11_check_119 rfl rfl (by decide) rfl ?_
        refine st_goto (pc := 122) (tgt := 72) dX11_check_122 (by decide) ?_
        exact ih _ _ _ _ _ hq
      ·
        refine st_iconst (pc := 115) (v := (1 : Int32)) dX11_check_115 rfl ?_
        refine st_iload_n (pc := 116) dX11_check_116 rfl ?_
        refine st_iadd (pc := 117) dX11_check_117 ?_
        exact bd_iret (pc := 118) hq dX11_check_118 rfl
def D_X11_check (N : Nat) (h : mh_H) (l0 : Nat) (l1 : Int32) : Option (Int32 × mh_H) :=
  (gR h 11 l0 0).bind fun v1 =>
  (gR h 10 v1 12).bind fun v2 =>
  (gI h 6 v2 1).bind fun v3 =>
  (gR h 11 l0 0).bind fun v4 =>
  (gR h 10 v4 12).bind fun v5 =>
  (pI h 6 v5 1 (0 : Int32)).bind fun h6 =>
  (gR h6 11 l0 0).bind fun v7 =>
  kO h6 10 v7 <|
  (D_X10_isJoint N h6 v7 l1).bind fun q8 =>
  if q8.1 = 0 then (kO q8.2 11 l0 <|
  (D_X11_error N q8.2 l0 (1 : Int32)).bind fun q9 =>
  some (q9.1, q9.2))
  else ((gR q8.2 11 l0 0).bind fun v9 =>
  kO q8.2 10 v9 <|
  (D_X10_isOutlet N q8.2 v9 l1).bind fun q10 =>
  if q10.1 = 0 then (kO q10.2 11 l0 <|
  (D_X11_error N q10.2 l0 (5 : Int32)).bind fun q11 =>
  some (q11.1, q11.2))
  else ((gR q10.2 11 l0 2).bind fun v11 =>
  (gR q10.2 11 l0 0).bind fun v12 =>
  (gR q10.2 10 v12 7).bind fun v13 =>
  kO q10.2 8 v11 <|
  (D_X8_copyOf N q10.2 v11 v13).bind fun q14 =>
  D_X11_check_72 N N q14 l0 l1 v3 (0 : Int32)))
set_option maxHeartbeats 4000000 in
set_option maxRecDepth 100000 in
theorem T_X11_check {P : mh_E → Prop} {N d : Nat} (hd : 7 ≤ d) {z : (Int32 × mh_H)} {h : mh_H} {l0 : Nat} {l1 : Int32} (hq : D_X11_check N h l0 l1 = some z) : mh_go P d mX11_check 0 [some (.ref l0), some (.int l1), none, none] [] h (some (.int z.1)) z.2 := by
  unfold D_X11_check at hq
  refine st_aload_n (pc := 0) dX11_check_0 rfl ?_
  refine bd_getr (pc := 1) hq dX11_check_1 fl_11_12_11 rfl (fun v1 hq => ?_)
  refine bd_getr (pc := 4) hq dX11_check_4 fl_11_364_10 rfl (fun v2 hq => ?_)
  refine bd_geti (pc := 7) hq dX11_check_7 fl_11_233_6 rfl (fun v3 hq => ?_)
  refine st_istore_n (pc := 10) (lv' := [some (.ref l0), some (.int l1), some (.int v3), none]) dX11_check_10 rfl (by decide) rfl ?_
  refine st_aload_n (pc := 11) dX11_check_11 rfl ?_
  refine bd_getr (pc := 12) hq dX11_check_12 fl_11_12_11 rfl (fun v4 hq => ?_)
  refine bd_getr (pc := 15) hq dX11_check_15 fl_11_364_10 rfl (fun v5 hq => ?_)
  refine st_iconst (pc := 18) (v := (0 : Int32)) dX11_check_18 rfl ?_
  refine bd_puti (pc := 19) hq dX11_check_19 fl_11_233_6 (Or.inl rfl) rfl (fun h6 hq => ?_)
  refine st_aload_n (pc := 22) dX11_check_22 rfl ?_
  refine bd_getr (pc := 23) hq dX11_check_23 fl_11_12_11 rfl (fun v7 hq => ?_)
  refine st_iload_n (pc := 26) dX11_check_26 rfl ?_
  obtain ⟨⟨hbq8, hkq8⟩, hq⟩ := mh_oi hq
  obtain ⟨q8, e8, hq⟩ := mh_ob hq
  refine st_invV (pc := 27) (ci := 10) (vs := [.int l1]) (rest := []) (st2 := [.int q8.1]) dX11_check_27 okX10_isJoint (by decide) hkq8 hbq8 wd_339 wd_340 wd_341 pdX10_isJoint rfl rfl rfl rfl (Nat.le_trans (by decide) hd) (Nat.le_of_ble_eq_true rfl) (T_X10_isJoint (Nat.le_refl _) e8) rfl ?_
  refine bd_if_ne (pc := 30) (tgt := 39) hq dX11_check_30 (by decide) (fun _ hq => ?_) (fun _ hq => ?_)
  ·
    refine st_aload_n (pc := 33) dX11_check_33 rfl ?_
    refine st_iconst (pc := 34) (v := (1 : Int32)) dX11_check_34 rfl ?_
    obtain ⟨⟨hbq9, hkq9⟩, hq⟩ := mh_oi hq
    obtain ⟨q9, e9, hq⟩ := mh_ob hq
    refine st_invV (pc := 35) (ci := 11) (vs := [.int (1 : Int32)]) (rest := []) (st2 := [.int q9.1]) dX11_check_35 okX11_error (by decide) hkq9 hbq9 wd_326 wd_328 wp_0 pdX11_error rfl rfl rfl rfl (Nat.le_trans (by decide) hd) (Nat.le_of_ble_eq_true rfl) (T_X11_error (Nat.le_refl _) e9) rfl ?_
    exact bd_iret (pc := 38) hq dX11_check_38 rfl
  ·
    refine st_aload_n (pc := 39) dX11_check_39 rfl ?_
    refine bd_getr (pc := 40) hq dX11_check_40 fl_11_12_11 rfl (fun v9 hq => ?_)
    refine st_iload_n (pc := 43) dX11_check_43 rfl ?_
    obtain ⟨⟨hbq10, hkq10⟩, hq⟩ := mh_oi hq
    obtain ⟨q10, e10, hq⟩ := mh_ob hq
    refine st_invV (pc := 44) (ci := 10) (vs := [.int l1]) (rest := []) (st2 := [.int q10.1]) dX11_check_44 okX10_isOutlet (by decide) hkq10 hbq10 wd_350 wd_351 wd_352 pdX10_isOutlet rfl rfl rfl rfl (Nat.le_trans (by decide) hd) (Nat.le_of_ble_eq_true rfl) (T_X10_isOutlet (Nat.le_refl _) e10) rfl ?_
    refine bd_if_ne (pc := 47) (tgt := 56) hq dX11_check_47 (by decide) (fun _ hq => ?_) (fun _ hq => ?_)
    ·
      refine st_aload_n (pc := 50) dX11_check_50 rfl ?_
      refine st_iconst (pc := 51) (v := (5 : Int32)) dX11_check_51 rfl ?_
      obtain ⟨⟨hbq11, hkq11⟩, hq⟩ := mh_oi hq
      obtain ⟨q11, e11, hq⟩ := mh_ob hq
      refine st_invV (pc := 52) (ci := 11) (vs := [.int (5 : Int32)]) (rest := []) (st2 := [.int q11.1]) dX11_check_52 okX11_error (by decide) hkq11 hbq11 wd_326 wd_328 wp_0 pdX11_error rfl rfl rfl rfl (Nat.le_trans (by decide) hd) (Nat.le_of_ble_eq_true rfl) (T_X11_error (Nat.le_refl _) e11) rfl ?_
      exact bd_iret (pc := 55) hq dX11_check_55 rfl
    ·
      refine st_aload_n (pc := 56) dX11_check_56 rfl ?_
      refine bd_getr (pc := 57) hq dX11_check_57 fl_11_22_11 rfl (fun v11 hq => ?_)
      refine st_aload_n (pc := 60) dX11_check_60 rfl ?_
      refine bd_getr (pc := 61) hq dX11_check_61 fl_11_12_11 rfl (fun v12 hq => ?_)
      refine bd_getr (pc := 64) hq dX11_check_64 fl_11_90_10 rfl (fun v13 hq => ?_)
      obtain ⟨⟨hbq14, hkq14⟩, hq⟩ := mh_oi hq
      obtain ⟨q14, e14, hq⟩ := mh_ob hq
      refine st_invV (pc := 67) (ci := 8) (vs := [.ref v13]) (rest := []) (st2 := []) dX11_check_67 okX8_copyOf (by decide) hkq14 hbq14 wd_1155 wd_673 wd_674 pdX8_copyOf rfl rfl rfl rfl (Nat.le_trans (by decide) hd) (Nat.le_of_ble_eq_true rfl) (T_X8_copyOf (Nat.le_refl _) e14) rfl ?_
      refine st_iconst (pc := 70) (v := (0 : Int32)) dX11_check_70 rfl ?_
      refine st_istore_n (pc := 71) (lv' := [some (.ref l0), some (.int l1), some (.int v3), some (.int (0 : Int32))]) dX11_check_71 rfl (by decide) rfl ?_
      exact T_X11_check_72 hd N _ _ _ _ _ hq
-- HoleWater$Looks.howManySaw()I
theorem dX1_howManySaw_4 : decode cX1_howManySaw 4 = .ok (.iload_n 2, 1) := by decide +kernel
theorem dX1_howManySaw_5 : decode cX1_howManySaw 5 = .ok (.aload_n 0, 1) := by decide +kernel
theorem dX1_howManySaw_6 : decode cX1_howManySaw 6 = .ok (.getfield 15, 3) := by decide +kernel
theorem dX1_howManySaw_9 : decode cX1_howManySaw 9 = .ok (.if_icmp .ge 18, 3) := by decide +kernel
theorem dX1_howManySaw_27 : decode cX1_howManySaw 27 = .ok (.iload_n 1, 1) := by decide +kernel
theorem dX1_howManySaw_28 : decode cX1_howManySaw 28 = .ok (.ireturn, 1) := by decide +kernel
theorem dX1_howManySaw_12 : decode cX1_howManySaw 12 = .ok (.iload_n 1, 1) := by decide +kernel
theorem dX1_howManySaw_13 : decode cX1_howManySaw 13 = .ok (.aload_n 0, 1) := by decide +kernel
theorem dX1_howManySaw_14 : decode cX1_howManySaw 14 = .ok (.iload_n 2, 1) := by decide +kernel
theorem dX1_howManySaw_15 : decode cX1_howManySaw 15 = .ok (.iconst 4, 1) := by decide +kernel
theorem dX1_howManySaw_16 : decode cX1_howManySaw 16 = .ok (.invokevirtual 60, 3) := by decide +kernel
theorem dX1_howManySaw_19 : decode cX1_howManySaw 19 = .ok (.iadd, 1) := by decide +kernel
theorem dX1_howManySaw_20 : decode cX1_howManySaw 20 = .ok (.istore_n 1, 1) := by decide +kernel
theorem dX1_howManySaw_21 : decode cX1_howManySaw 21 = .ok (.iinc 2 1, 3) := by decide +kernel
theorem dX1_howManySaw_24 : decode cX1_howManySaw 24 = .ok (.goto (-20), 3) := by decide +kernel
theorem dX1_howManySaw_0 : decode cX1_howManySaw 0 = .ok (.iconst 0, 1) := by decide +kernel
theorem dX1_howManySaw_1 : decode cX1_howManySaw 1 = .ok (.istore_n 1, 1) := by decide +kernel
theorem dX1_howManySaw_2 : decode cX1_howManySaw 2 = .ok (.iconst 0, 1) := by decide +kernel
theorem dX1_howManySaw_3 : decode cX1_howManySaw 3 = .ok (.istore_n 2, 1) := by decide +kernel
def D_X1_howManySaw_4 (N : Nat) : Nat → mh_H → Nat → Int32 → Int32 → Option (Int32 × mh_H)
  | 0, _, _, _, _ => none
  | F + 1, h, l0, l1, l2 =>
    (gI h 1 l0 1).bind fun v1 =>
    if v1 ≤ l2 then (some (l1, h))
    else (kO h 1 l0 <|
    (D_X1_lookPart N h l0 l2 (4 : Int32)).bind fun q2 =>
    (D_X1_howManySaw_4 N F) q2.2 l0 (l1 + q2.1) (l2 + Int32.ofInt (1)))
set_option maxHeartbeats 4000000 in
set_option maxRecDepth 100000 in
theorem T_X1_howManySaw_4 {P : mh_E → Prop} {N d : Nat} (hd : 2 ≤ d) {z : (Int32 × mh_H)} : ∀ (F : Nat) (h : mh_H) (l0 : Nat) (l1 : Int32) (l2 : Int32), D_X1_howManySaw_4 N F h l0 l1 l2 = some z → mh_go P d mX1_howManySaw 4 [some (.ref l0), some (.int l1), some (.int l2)] [] h (some (.int z.1)) z.2 := by
  intro F
  induction F with
  | zero => intro h l0 l1 l2 hq; rw [D_X1_howManySaw_4] at hq; cases hq
  | succ F ih =>
    intro h l0 l1 l2 hq
    rw [D_X1_howManySaw_4] at hq
    refine st_iload_n (pc := 4) dX1_howManySaw_4 rfl ?_
    refine st_aload_n (pc := 5) dX1_howManySaw_5 rfl ?_
    refine bd_geti (pc := 6) hq dX1_howManySaw_6 fl_1_15_1 rfl (fun v1 hq => ?_)
    refine bd_icmp_ge (pc := 9) (tgt := 27) hq dX1_howManySaw_9 (by decide) (fun _ hq => ?_) (fun _ hq => ?_)
    ·
      refine st_iload_n (pc := 27) dX1_howManySaw_27 rfl ?_
      exact bd_iret (pc := 28) hq dX1_howManySaw_28 rfl
    ·
      refine st_iload_n (pc := 12) dX1_howManySaw_12 rfl ?_
      refine st_aload_n (pc := 13) dX1_howManySaw_13 rfl ?_
      refine st_iload_n (pc := 14) dX1_howManySaw_14 rfl ?_
      refine st_iconst (pc := 15) (v := (4 : Int32)) dX1_howManySaw_15 rfl ?_
      obtain ⟨⟨hbq2, hkq2⟩, hq⟩ := mh_oi hq
      obtain ⟨q2, e2, hq⟩ := mh_ob hq
      refine st_invV (pc := 16) (ci := 1) (vs := [.int l2, .int (4 : Int32)]) (rest := [.int l1]) (st2 := [.int q2.1, .int l1]) dX1_howManySaw_16 okX1_lookPart (by decide) hkq2 hbq2 wd_883 wd_884 wd_885 pdX1_lookPart rfl rfl rfl rfl (Nat.le_trans (by decide) hd) (Nat.le_of_ble_eq_true rfl) (T_X1_lookPart (Nat.le_refl _) e2) rfl ?_
      refine st_iadd (pc := 19) dX1_howManySaw_19 ?_
      refine st_istore_n (pc := 20) (lv' := [some (.ref l0), some (.int (l1 + q2.1)), some (.int l2)]) dX1_howManySaw_20 rfl (by decide) rfl ?_
      refine st_iinc (pc := 21) (lv' := [some (.ref l0), some (.int (l1 + q2.1)), some (.int (l2 + Int32.ofInt (1)))]) dX1_howManySaw_21 rfl rfl (by decide) rfl ?_
      refine st_goto (pc := 24) (tgt := 4) dX1_howManySaw_24 (by decide) ?_
      exact ih _ _ _ _ hq
def D_X1_howManySaw (N : Nat) (h : mh_H) (l0 : Nat) : Option (Int32 × mh_H) :=
  D_X1_howManySaw_4 N N h l0 (0 : Int32) (0 : Int32)
set_option maxHeartbeats 4000000 in
set_option maxRecDepth 100000 in
theorem T_X1_howManySaw {P : mh_E → Prop} {N d : Nat} (hd : 2 ≤ d) {z : (Int32 × mh_H)} {h : mh_H} {l0 : Nat} (hq : D_X1_howManySaw N h l0 = some z) : mh_go P d mX1_howManySaw 0 [some (.ref l0), none, none] [] h (some (.int z.1)) z.2 := by
  unfold D_X1_howManySaw at hq
  refine st_iconst (pc := 0) (v := (0 : Int32)) dX1_howManySaw_0 rfl ?_
  refine st_istore_n (pc := 1) (lv' := [some (.ref l0), some (.int (0 : Int32)), none]) dX1_howManySaw_1 rfl (by decide) rfl ?_
  refine st_iconst (pc := 2) (v := (0 : Int32)) dX1_howManySaw_2 rfl ?_
  refine st_istore_n (pc := 3) (lv' := [some (.ref l0), some (.int (0 : Int32)), some (.int (0 : Int32))]) dX1_howManySaw_3 rfl (by decide) rfl ?_
  exact T_X1_howManySaw_4 hd N _ _ _ _ hq
-- HoleWater.count(I)I
theorem dX11_count_0 : decode cX11_count 0 = .ok (.iload_n 1, 1) := by decide +kernel
theorem dX11_count_1 : decode cX11_count 1 = .ok (.tableswitch 192 0 11 #[63, 74, 82, 90, 101, 112, 123, 134, 145, 153, 172, 183], 63) := by decide +kernel
theorem dX11_count_64 : decode cX11_count 64 = .ok (.aload_n 0, 1) := by decide +kernel
theorem dX11_count_65 : decode cX11_count 65 = .ok (.getfield 12, 3) := by decide +kernel
theorem dX11_count_68 : decode cX11_count 68 = .ok (.getfield 90, 3) := by decide +kernel
theorem dX11_count_71 : decode cX11_count 71 = .ok (.getfield 189, 3) := by decide +kernel
theorem dX11_count_74 : decode cX11_count 74 = .ok (.ireturn, 1) := by decide +kernel
theorem dX11_count_75 : decode cX11_count 75 = .ok (.aload_n 0, 1) := by decide +kernel
theorem dX11_count_76 : decode cX11_count 76 = .ok (.getfield 12, 3) := by decide +kernel
theorem dX11_count_79 : decode cX11_count 79 = .ok (.getfield 70, 3) := by decide +kernel
theorem dX11_count_82 : decode cX11_count 82 = .ok (.ireturn, 1) := by decide +kernel
theorem dX11_count_83 : decode cX11_count 83 = .ok (.aload_n 0, 1) := by decide +kernel
theorem dX11_count_84 : decode cX11_count 84 = .ok (.getfield 12, 3) := by decide +kernel
theorem dX11_count_87 : decode cX11_count 87 = .ok (.getfield 116, 3) := by decide +kernel
theorem dX11_count_90 : decode cX11_count 90 = .ok (.ireturn, 1) := by decide +kernel
theorem dX11_count_91 : decode cX11_count 91 = .ok (.aload_n 0, 1) := by decide +kernel
theorem dX11_count_92 : decode cX11_count 92 = .ok (.getfield 12, 3) := by decide +kernel
theorem dX11_count_95 : decode cX11_count 95 = .ok (.getfield 196, 3) := by decide +kernel
theorem dX11_count_98 : decode cX11_count 98 = .ok (.getfield 200, 3) := by decide +kernel
theorem dX11_count_101 : decode cX11_count 101 = .ok (.ireturn, 1) := by decide +kernel
theorem dX11_count_102 : decode cX11_count 102 = .ok (.aload_n 0, 1) := by decide +kernel
theorem dX11_count_103 : decode cX11_count 103 = .ok (.getfield 12, 3) := by decide +kernel
theorem dX11_count_106 : decode cX11_count 106 = .ok (.getfield 196, 3) := by decide +kernel
theorem dX11_count_109 : decode cX11_count 109 = .ok (.getfield 275, 3) := by decide +kernel
theorem dX11_count_112 : decode cX11_count 112 = .ok (.ireturn, 1) := by decide +kernel
theorem dX11_count_113 : decode cX11_count 113 = .ok (.aload_n 0, 1) := by decide +kernel
theorem dX11_count_114 : decode cX11_count 114 = .ok (.getfield 12, 3) := by decide +kernel
theorem dX11_count_117 : decode cX11_count 117 = .ok (.getfield 196, 3) := by decide +kernel
theorem dX11_count_120 : decode cX11_count 120 = .ok (.invokevirtual 370, 3) := by decide +kernel
theorem dX11_count_123 : decode cX11_count 123 = .ok (.ireturn, 1) := by decide +kernel
theorem dX11_count_124 : decode cX11_count 124 = .ok (.aload_n 0, 1) := by decide +kernel
theorem dX11_count_125 : decode cX11_count 125 = .ok (.getfield 12, 3) := by decide +kernel
theorem dX11_count_128 : decode cX11_count 128 = .ok (.getfield 230, 3) := by decide +kernel
theorem dX11_count_131 : decode cX11_count 131 = .ok (.getfield 233, 3) := by decide +kernel
theorem dX11_count_134 : decode cX11_count 134 = .ok (.ireturn, 1) := by decide +kernel
theorem dX11_count_135 : decode cX11_count 135 = .ok (.aload_n 0, 1) := by decide +kernel
theorem dX11_count_136 : decode cX11_count 136 = .ok (.getfield 12, 3) := by decide +kernel
theorem dX11_count_139 : decode cX11_count 139 = .ok (.getfield 364, 3) := by decide +kernel
theorem dX11_count_142 : decode cX11_count 142 = .ok (.getfield 233, 3) := by decide +kernel
theorem dX11_count_145 : decode cX11_count 145 = .ok (.ireturn, 1) := by decide +kernel
theorem dX11_count_146 : decode cX11_count 146 = .ok (.aload_n 0, 1) := by decide +kernel
theorem dX11_count_147 : decode cX11_count 147 = .ok (.getfield 38, 3) := by decide +kernel
theorem dX11_count_150 : decode cX11_count 150 = .ok (.getfield 233, 3) := by decide +kernel
theorem dX11_count_153 : decode cX11_count 153 = .ok (.ireturn, 1) := by decide +kernel
theorem dX11_count_154 : decode cX11_count 154 = .ok (.aload_n 0, 1) := by decide +kernel
theorem dX11_count_155 : decode cX11_count 155 = .ok (.getfield 12, 3) := by decide +kernel
theorem dX11_count_158 : decode cX11_count 158 = .ok (.getfield 90, 3) := by decide +kernel
theorem dX11_count_161 : decode cX11_count 161 = .ok (.getfield 179, 3) := by decide +kernel
theorem dX11_count_164 : decode cX11_count 164 = .ok (.ifCond .eq 7, 3) := by decide +kernel
theorem dX11_count_171 : decode cX11_count 171 = .ok (.iconst 0, 1) := by decide +kernel
theorem dX11_count_172 : decode cX11_count 172 = .ok (.ireturn, 1) := by decide +kernel
theorem dX11_count_167 : decode cX11_count 167 = .ok (.iconst 1, 1) := by decide +kernel
theorem dX11_count_168 : decode cX11_count 168 = .ok (.goto 4, 3) := by decide +kernel
theorem dX11_count_173 : decode cX11_count 173 = .ok (.aload_n 0, 1) := by decide +kernel
theorem dX11_count_174 : decode cX11_count 174 = .ok (.getfield 12, 3) := by decide +kernel
theorem dX11_count_177 : decode cX11_count 177 = .ok (.getfield 90, 3) := by decide +kernel
theorem dX11_count_180 : decode cX11_count 180 = .ok (.getfield 373, 3) := by decide +kernel
theorem dX11_count_183 : decode cX11_count 183 = .ok (.ireturn, 1) := by decide +kernel
theorem dX11_count_184 : decode cX11_count 184 = .ok (.aload_n 0, 1) := by decide +kernel
theorem dX11_count_185 : decode cX11_count 185 = .ok (.getfield 12, 3) := by decide +kernel
theorem dX11_count_188 : decode cX11_count 188 = .ok (.iconst 0, 1) := by decide +kernel
theorem dX11_count_189 : decode cX11_count 189 = .ok (.invokevirtual 214, 3) := by decide +kernel
theorem dX11_count_192 : decode cX11_count 192 = .ok (.ireturn, 1) := by decide +kernel
theorem dX11_count_193 : decode cX11_count 193 = .ok (.aload_n 0, 1) := by decide +kernel
theorem dX11_count_194 : decode cX11_count 194 = .ok (.iconst 1, 1) := by decide +kernel
theorem dX11_count_195 : decode cX11_count 195 = .ok (.invokevirtual 66, 3) := by decide +kernel
theorem dX11_count_198 : decode cX11_count 198 = .ok (.ireturn, 1) := by decide +kernel
def D_X11_count (N : Nat) (h : mh_H) (l0 : Nat) (l1 : Int32) : Option (Int32 × mh_H) :=
  if l1 = 0 then ((gR h 11 l0 0).bind fun v1 =>
  (gR h 10 v1 7).bind fun v2 =>
  (gI h 8 v2 0).bind fun v3 =>
  some (v3, h))
  else if l1 = 1 then ((gR h 11 l0 0).bind fun v1 =>
  (gI h 10 v1 0).bind fun v2 =>
  some (v2, h))
  else if l1 = 2 then ((gR h 11 l0 0).bind fun v1 =>
  (gI h 10 v1 1).bind fun v2 =>
  some (v2, h))
  else if l1 = 3 then ((gR h 11 l0 0).bind fun v1 =>
  (gR h 10 v1 8).bind fun v2 =>
  (gI h 1 v2 0).bind fun v3 =>
  some (v3, h))
  else if l1 = 4 then ((gR h 11 l0 0).bind fun v1 =>
  (gR h 10 v1 8).bind fun v2 =>
  (gI h 1 v2 1).bind fun v3 =>
  some (v3, h))
  else if l1 = 5 then ((gR h 11 l0 0).bind fun v1 =>
  (gR h 10 v1 8).bind fun v2 =>
  kO h 1 v2 <|
  (D_X1_howManySaw N h v2).bind fun q3 =>
  some (q3.1, q3.2))
  else if l1 = 6 then ((gR h 11 l0 0).bind fun v1 =>
  (gR h 10 v1 9).bind fun v2 =>
  (gI h 6 v2 1).bind fun v3 =>
  some (v3, h))
  else if l1 = 7 then ((gR h 11 l0 0).bind fun v1 =>
  (gR h 10 v1 12).bind fun v2 =>
  (gI h 6 v2 1).bind fun v3 =>
  some (v3, h))
  else if l1 = 8 then ((gR h 11 l0 4).bind fun v1 =>
  (gI h 6 v1 1).bind fun v2 =>
  some (v2, h))
  else if l1 = 9 then ((gR h 11 l0 0).bind fun v1 =>
  (gR h 10 v1 7).bind fun v2 =>
  (gI h 8 v2 1).bind fun v3 =>
  if v3 = 0 then (some ((0 : Int32), h))
  else (some ((1 : Int32), h)))
  else if l1 = 10 then ((gR h 11 l0 0).bind fun v1 =>
  (gR h 10 v1 7).bind fun v2 =>
  (gI h 8 v2 2).bind fun v3 =>
  some (v3, h))
  else if l1 = 11 then ((gR h 11 l0 0).bind fun v1 =>
  kO h 10 v1 <|
  (D_X10_allBelow N h v1 (0 : Int32)).bind fun q2 =>
  some (q2.1, q2.2))
  else (kO h 11 l0 <|
  (D_X11_error N h l0 (1 : Int32)).bind fun q1 =>
  some (q1.1, q1.2))
set_option maxHeartbeats 4000000 in
set_option maxRecDepth 100000 in
theorem T_X11_count {P : mh_E → Prop} {N d : Nat} (hd : 3 ≤ d) {z : (Int32 × mh_H)} {h : mh_H} {l0 : Nat} {l1 : Int32} (hq : D_X11_count N h l0 l1 = some z) : mh_go P d mX11_count 0 [some (.ref l0), some (.int l1)] [] h (some (.int z.1)) z.2 := by
  unfold D_X11_count at hq
  refine st_iload_n (pc := 0) dX11_count_0 rfl ?_
  by_cases c0 : l1 = 0
  ·
    rw [if_pos c0] at hq
    refine st_tin (pc := 1) (tgt := 64) dX11_count_1 (by rw [c0]; decide) (by rw [c0]; decide) (by rw [c0]; rfl) (by decide) ?_
    refine st_aload_n (pc := 64) dX11_count_64 rfl ?_
    refine bd_getr (pc := 65) hq dX11_count_65 fl_11_12_11 rfl (fun v1 hq => ?_)
    refine bd_getr (pc := 68) hq dX11_count_68 fl_11_90_10 rfl (fun v2 hq => ?_)
    refine bd_geti (pc := 71) hq dX11_count_71 fl_11_189_8 rfl (fun v3 hq => ?_)
    exact bd_iret (pc := 74) hq dX11_count_74 rfl
  ·
    rw [if_neg c0] at hq
    by_cases c1 : l1 = 1
    ·
      rw [if_pos c1] at hq
      refine st_tin (pc := 1) (tgt := 75) dX11_count_1 (by rw [c1]; decide) (by rw [c1]; decide) (by rw [c1]; rfl) (by decide) ?_
      refine st_aload_n (pc := 75) dX11_count_75 rfl ?_
      refine bd_getr (pc := 76) hq dX11_count_76 fl_11_12_11 rfl (fun v1 hq => ?_)
      refine bd_geti (pc := 79) hq dX11_count_79 fl_11_70_10 rfl (fun v2 hq => ?_)
      exact bd_iret (pc := 82) hq dX11_count_82 rfl
    ·
      rw [if_neg c1] at hq
      by_cases c2 : l1 = 2
      ·
        rw [if_pos c2] at hq
        refine st_tin (pc := 1) (tgt := 83) dX11_count_1 (by rw [c2]; decide) (by rw [c2]; decide) (by rw [c2]; rfl) (by decide) ?_
        refine st_aload_n (pc := 83) dX11_count_83 rfl ?_
        refine bd_getr (pc := 84) hq dX11_count_84 fl_11_12_11 rfl (fun v1 hq => ?_)
        refine bd_geti (pc := 87) hq dX11_count_87 fl_11_116_10 rfl (fun v2 hq => ?_)
        exact bd_iret (pc := 90) hq dX11_count_90 rfl
      ·
        rw [if_neg c2] at hq
        by_cases c3 : l1 = 3
        ·
          rw [if_pos c3] at hq
          refine st_tin (pc := 1) (tgt := 91) dX11_count_1 (by rw [c3]; decide) (by rw [c3]; decide) (by rw [c3]; rfl) (by decide) ?_
          refine st_aload_n (pc := 91) dX11_count_91 rfl ?_
          refine bd_getr (pc := 92) hq dX11_count_92 fl_11_12_11 rfl (fun v1 hq => ?_)
          refine bd_getr (pc := 95) hq dX11_count_95 fl_11_196_10 rfl (fun v2 hq => ?_)
          refine bd_geti (pc := 98) hq dX11_count_98 fl_11_200_1 rfl (fun v3 hq => ?_)
          exact bd_iret (pc := 101) hq dX11_count_101 rfl
        ·
          rw [if_neg c3] at hq
          by_cases c4 : l1 = 4
          ·
            rw [if_pos c4] at hq
            refine st_tin (pc := 1) (tgt := 102) dX11_count_1 (by rw [c4]; decide) (by rw [c4]; decide) (by rw [c4]; rfl) (by decide) ?_
            refine st_aload_n (pc := 102) dX11_count_102 rfl ?_
            refine bd_getr (pc := 103) hq dX11_count_103 fl_11_12_11 rfl (fun v1 hq => ?_)
            refine bd_getr (pc := 106) hq dX11_count_106 fl_11_196_10 rfl (fun v2 hq => ?_)
            refine bd_geti (pc := 109) hq dX11_count_109 fl_11_275_1 rfl (fun v3 hq => ?_)
            exact bd_iret (pc := 112) hq dX11_count_112 rfl
          ·
            rw [if_neg c4] at hq
            by_cases c5 : l1 = 5
            ·
              rw [if_pos c5] at hq
              refine st_tin (pc := 1) (tgt := 113) dX11_count_1 (by rw [c5]; decide) (by rw [c5]; decide) (by rw [c5]; rfl) (by decide) ?_
              refine st_aload_n (pc := 113) dX11_count_113 rfl ?_
              refine bd_getr (pc := 114) hq dX11_count_114 fl_11_12_11 rfl (fun v1 hq => ?_)
              refine bd_getr (pc := 117) hq dX11_count_117 fl_11_196_10 rfl (fun v2 hq => ?_)
              obtain ⟨⟨hbq3, hkq3⟩, hq⟩ := mh_oi hq
              obtain ⟨q3, e3, hq⟩ := mh_ob hq
              refine st_invV (pc := 120) (ci := 1) (vs := []) (rest := []) (st2 := [.int q3.1]) dX11_count_120 okX1_howManySaw (by decide) hkq3 hbq3 wd_1160 wd_1161 wd_1162 pdX1_howManySaw rfl rfl rfl rfl (Nat.le_trans (by decide) hd) (Nat.le_of_ble_eq_true rfl) (T_X1_howManySaw (Nat.le_refl _) e3) rfl ?_
              exact bd_iret (pc := 123) hq dX11_count_123 rfl
            ·
              rw [if_neg c5] at hq
              by_cases c6 : l1 = 6
              ·
                rw [if_pos c6] at hq
                refine st_tin (pc := 1) (tgt := 124) dX11_count_1 (by rw [c6]; decide) (by rw [c6]; decide) (by rw [c6]; rfl) (by decide) ?_
                refine st_aload_n (pc := 124) dX11_count_124 rfl ?_
                refine bd_getr (pc := 125) hq dX11_count_125 fl_11_12_11 rfl (fun v1 hq => ?_)
                refine bd_getr (pc := 128) hq dX11_count_128 fl_11_230_10 rfl (fun v2 hq => ?_)
                refine bd_geti (pc := 131) hq dX11_count_131 fl_11_233_6 rfl (fun v3 hq => ?_)
                exact bd_iret (pc := 134) hq dX11_count_134 rfl
              ·
                rw [if_neg c6] at hq
                by_cases c7 : l1 = 7
                ·
                  rw [if_pos c7] at hq
                  refine st_tin (pc := 1) (tgt := 135) dX11_count_1 (by rw [c7]; decide) (by rw [c7]; decide) (by rw [c7]; rfl) (by decide) ?_
                  refine st_aload_n (pc := 135) dX11_count_135 rfl ?_
                  refine bd_getr (pc := 136) hq dX11_count_136 fl_11_12_11 rfl (fun v1 hq => ?_)
                  refine bd_getr (pc := 139) hq dX11_count_139 fl_11_364_10 rfl (fun v2 hq => ?_)
                  refine bd_geti (pc := 142) hq dX11_count_142 fl_11_233_6 rfl (fun v3 hq => ?_)
                  exact bd_iret (pc := 145) hq dX11_count_145 rfl
                ·
                  rw [if_neg c7] at hq
                  by_cases c8 : l1 = 8
                  ·
                    rw [if_pos c8] at hq
                    refine st_tin (pc := 1) (tgt := 146) dX11_count_1 (by rw [c8]; decide) (by rw [c8]; decide) (by rw [c8]; rfl) (by decide) ?_
                    refine st_aload_n (pc := 146) dX11_count_146 rfl ?_
                    refine bd_getr (pc := 147) hq dX11_count_147 fl_11_38_11 rfl (fun v1 hq => ?_)
                    refine bd_geti (pc := 150) hq dX11_count_150 fl_11_233_6 rfl (fun v2 hq => ?_)
                    exact bd_iret (pc := 153) hq dX11_count_153 rfl
                  ·
                    rw [if_neg c8] at hq
                    by_cases c9 : l1 = 9
                    ·
                      rw [if_pos c9] at hq
                      refine st_tin (pc := 1) (tgt := 154) dX11_count_1 (by rw [c9]; decide) (by rw [c9]; decide) (by rw [c9]; rfl) (by decide) ?_
                      refine st_aload_n (pc := 154) dX11_count_154 rfl ?_
                      refine bd_getr (pc := 155) hq dX11_count_155 fl_11_12_11 rfl (fun v1 hq => ?_)
                      refine bd_getr (pc := 158) hq dX11_count_158 fl_11_90_10 rfl (fun v2 hq => ?_)
                      refine bd_geti (pc := 161) hq dX11_count_161 fl_11_179_8 rfl (fun v3 hq => ?_)
                      refine bd_if_eq (pc := 164) (tgt := 171) hq dX11_count_164 (by decide) (fun _ hq => ?_) (fun _ hq => ?_)
                      ·
                        refine st_iconst (pc := 171) (v := (0 : Int32)) dX11_count_171 rfl ?_
                        exact bd_iret (pc := 172) hq dX11_count_172 rfl
                      ·
                        refine st_iconst (pc := 167) (v := (1 : Int32)) dX11_count_167 rfl ?_
                        refine st_goto (pc := 168) (tgt := 172) dX11_count_168 (by decide) ?_
                        exact bd_iret (pc := 172) hq dX11_count_172 rfl
                    ·
                      rw [if_neg c9] at hq
                      by_cases c10 : l1 = 10
                      ·
                        rw [if_pos c10] at hq
                        refine st_tin (pc := 1) (tgt := 173) dX11_count_1 (by rw [c10]; decide) (by rw [c10]; decide) (by rw [c10]; rfl) (by decide) ?_
                        refine st_aload_n (pc := 173) dX11_count_173 rfl ?_
                        refine bd_getr (pc := 174) hq dX11_count_174 fl_11_12_11 rfl (fun v1 hq => ?_)
                        refine bd_getr (pc := 177) hq dX11_count_177 fl_11_90_10 rfl (fun v2 hq => ?_)
                        refine bd_geti (pc := 180) hq dX11_count_180 fl_11_373_8 rfl (fun v3 hq => ?_)
                        exact bd_iret (pc := 183) hq dX11_count_183 rfl
                      ·
                        rw [if_neg c10] at hq
                        by_cases c11 : l1 = 11
                        ·
                          rw [if_pos c11] at hq
                          refine st_tin (pc := 1) (tgt := 184) dX11_count_1 (by rw [c11]; decide) (by rw [c11]; decide) (by rw [c11]; rfl) (by decide) ?_
                          refine st_aload_n (pc := 184) dX11_count_184 rfl ?_
                          refine bd_getr (pc := 185) hq dX11_count_185 fl_11_12_11 rfl (fun v1 hq => ?_)
                          refine st_iconst (pc := 188) (v := (0 : Int32)) dX11_count_188 rfl ?_
                          obtain ⟨⟨hbq2, hkq2⟩, hq⟩ := mh_oi hq
                          obtain ⟨q2, e2, hq⟩ := mh_ob hq
                          refine st_invV (pc := 189) (ci := 10) (vs := [.int (0 : Int32)]) (rest := []) (st2 := [.int q2.1]) dX11_count_189 okX10_allBelow (by decide) hkq2 hbq2 wd_647 wd_648 wd_649 pdX10_allBelow rfl rfl rfl rfl (Nat.le_trans (by decide) hd) (Nat.le_of_ble_eq_true rfl) (T_X10_allBelow (Nat.le_refl _) e2) rfl ?_
                          exact bd_iret (pc := 192) hq dX11_count_192 rfl
                        ·
                          rw [if_neg c11] at hq
                          refine st_tout (pc := 1) (tgt := 193) dX11_count_1 (by have e0 := lv_neT c0 (k := 0) (a := 0) (by decide); have e1 := lv_neT c1 (k := 1) (a := 1) (by decide); have e2 := lv_neT c2 (k := 2) (a := 2) (by decide); have e3 := lv_neT c3 (k := 3) (a := 3) (by decide); have e4 := lv_neT c4 (k := 4) (a := 4) (by decide); have e5 := lv_neT c5 (k := 5) (a := 5) (by decide); have e6 := lv_neT c6 (k := 6) (a := 6) (by decide); have e7 := lv_neT c7 (k := 7) (a := 7) (by decide); have e8 := lv_neT c8 (k := 8) (a := 8) (by decide); have e9 := lv_neT c9 (k := 9) (a := 9) (by decide); have e10 := lv_neT c10 (k := 10) (a := 10) (by decide); have e11 := lv_neT c11 (k := 11) (a := 11) (by decide); omega) (by decide) ?_
                          refine st_aload_n (pc := 193) dX11_count_193 rfl ?_
                          refine st_iconst (pc := 194) (v := (1 : Int32)) dX11_count_194 rfl ?_
                          obtain ⟨⟨hbq1, hkq1⟩, hq⟩ := mh_oi hq
                          obtain ⟨q1, e1, hq⟩ := mh_ob hq
                          refine st_invV (pc := 195) (ci := 11) (vs := [.int (1 : Int32)]) (rest := []) (st2 := [.int q1.1]) dX11_count_195 okX11_error (by decide) hkq1 hbq1 wd_326 wd_328 wp_0 pdX11_error rfl rfl rfl rfl (Nat.le_trans (by decide) hd) (Nat.le_of_ble_eq_true rfl) (T_X11_error (Nat.le_refl _) e1) rfl ?_
                          exact bd_iret (pc := 198) hq dX11_count_198 rfl
-- HoleWater.told(I)I
theorem dX11_told_0 : decode cX11_told 0 = .ok (.iload_n 1, 1) := by decide +kernel
theorem dX11_told_1 : decode cX11_told 1 = .ok (.iconst 1, 1) := by decide +kernel
theorem dX11_told_2 : decode cX11_told 2 = .ok (.bipush 6, 2) := by decide +kernel
theorem dX11_told_4 : decode cX11_told 4 = .ok (.invokestatic 62, 3) := by decide +kernel
theorem dX11_told_7 : decode cX11_told 7 = .ok (.ifCond .eq 12, 3) := by decide +kernel
theorem dX11_told_19 : decode cX11_told 19 = .ok (.aload_n 0, 1) := by decide +kernel
theorem dX11_told_20 : decode cX11_told 20 = .ok (.iconst 1, 1) := by decide +kernel
theorem dX11_told_21 : decode cX11_told 21 = .ok (.invokevirtual 66, 3) := by decide +kernel
theorem dX11_told_24 : decode cX11_told 24 = .ok (.ireturn, 1) := by decide +kernel
theorem dX11_told_10 : decode cX11_told 10 = .ok (.aload_n 0, 1) := by decide +kernel
theorem dX11_told_11 : decode cX11_told 11 = .ok (.getfield 42, 3) := by decide +kernel
theorem dX11_told_14 : decode cX11_told 14 = .ok (.iload_n 1, 1) := by decide +kernel
theorem dX11_told_15 : decode cX11_told 15 = .ok (.iaload, 1) := by decide +kernel
theorem dX11_told_16 : decode cX11_told 16 = .ok (.goto 8, 3) := by decide +kernel
def D_X11_told (N : Nat) (h : mh_H) (l0 : Nat) (l1 : Int32) : Option (Int32 × mh_H) :=
  (D_X11_within N h l1 (1 : Int32) (6 : Int32)).bind fun q1 =>
  if q1.1 = 0 then (kO q1.2 11 l0 <|
  (D_X11_error N q1.2 l0 (1 : Int32)).bind fun q2 =>
  some (q2.1, q2.2))
  else ((gR q1.2 11 l0 5).bind fun v2 =>
  (aI q1.2 v2 l1).bind fun v3 =>
  some (v3, q1.2))
set_option maxHeartbeats 4000000 in
set_option maxRecDepth 100000 in
theorem T_X11_told {P : mh_E → Prop} {N d : Nat} (hd : 3 ≤ d) {z : (Int32 × mh_H)} {h : mh_H} {l0 : Nat} {l1 : Int32} (hq : D_X11_told N h l0 l1 = some z) : mh_go P d mX11_told 0 [some (.ref l0), some (.int l1)] [] h (some (.int z.1)) z.2 := by
  unfold D_X11_told at hq
  refine st_iload_n (pc := 0) dX11_told_0 rfl ?_
  refine st_iconst (pc := 1) (v := (1 : Int32)) dX11_told_1 rfl ?_
  refine st_bipush (pc := 2) (v := (6 : Int32)) dX11_told_2 (by decide) ?_
  obtain ⟨q1, e1, hq⟩ := mh_ob hq
  refine st_invS (pc := 4) (Y := mX11_within) (vs := [.int l1, .int (1 : Int32), .int (6 : Int32)]) (rest := []) (st2 := [.int q1.1]) dX11_told_4 okX11_within wd_323 wd_324 pdX11_within rfl rfl rfl rfl (Nat.le_trans (by decide) hd) (Nat.le_of_ble_eq_true rfl) (T_X11_within (Nat.le_refl _) e1) rfl ?_
  refine bd_if_eq (pc := 7) (tgt := 19) hq dX11_told_7 (by decide) (fun _ hq => ?_) (fun _ hq => ?_)
  ·
    refine st_aload_n (pc := 19) dX11_told_19 rfl ?_
    refine st_iconst (pc := 20) (v := (1 : Int32)) dX11_told_20 rfl ?_
    obtain ⟨⟨hbq2, hkq2⟩, hq⟩ := mh_oi hq
    obtain ⟨q2, e2, hq⟩ := mh_ob hq
    refine st_invV (pc := 21) (ci := 11) (vs := [.int (1 : Int32)]) (rest := []) (st2 := [.int q2.1]) dX11_told_21 okX11_error (by decide) hkq2 hbq2 wd_326 wd_328 wp_0 pdX11_error rfl rfl rfl rfl (Nat.le_trans (by decide) hd) (Nat.le_of_ble_eq_true rfl) (T_X11_error (Nat.le_refl _) e2) rfl ?_
    exact bd_iret (pc := 24) hq dX11_told_24 rfl
  ·
    refine st_aload_n (pc := 10) dX11_told_10 rfl ?_
    refine bd_getr (pc := 11) hq dX11_told_11 fl_11_42_11 rfl (fun v2 hq => ?_)
    refine st_iload_n (pc := 14) dX11_told_14 rfl ?_
    refine bd_iald (pc := 15) hq dX11_told_15 (fun v3 hq => ?_)
    refine st_goto (pc := 16) (tgt := 24) dX11_told_16 (by decide) ?_
    exact bd_iret (pc := 24) hq dX11_told_24 rfl
-- HoleWaterModel.<init>()V
theorem dX12_init_0 : decode cX12_init 0 = .ok (.aload_n 0, 1) := by decide +kernel
theorem dX12_init_1 : decode cX12_init 1 = .ok (.invokespecial 3, 3) := by decide +kernel
theorem dX12_init_4 : decode cX12_init 4 = .ok (.aload_n 0, 1) := by decide +kernel
theorem dX12_init_5 : decode cX12_init 5 = .ok (.sipush 7794, 3) := by decide +kernel
theorem dX12_init_8 : decode cX12_init 8 = .ok (.newarray .int, 2) := by decide +kernel
theorem dX12_init_10 : decode cX12_init 10 = .ok (.putfield 9, 3) := by decide +kernel
theorem dX12_init_13 : decode cX12_init 13 = .ok (.aload_n 0, 1) := by decide +kernel
theorem dX12_init_14 : decode cX12_init 14 = .ok (.sipush 7794, 3) := by decide +kernel
theorem dX12_init_17 : decode cX12_init 17 = .ok (.newarray .int, 2) := by decide +kernel
theorem dX12_init_19 : decode cX12_init 19 = .ok (.putfield 13, 3) := by decide +kernel
theorem dX12_init_22 : decode cX12_init 22 = .ok (.aload_n 0, 1) := by decide +kernel
theorem dX12_init_23 : decode cX12_init 23 = .ok (.sipush 7794, 3) := by decide +kernel
theorem dX12_init_26 : decode cX12_init 26 = .ok (.newarray .int, 2) := by decide +kernel
theorem dX12_init_28 : decode cX12_init 28 = .ok (.putfield 16, 3) := by decide +kernel
theorem dX12_init_31 : decode cX12_init 31 = .ok (.aload_n 0, 1) := by decide +kernel
theorem dX12_init_32 : decode cX12_init 32 = .ok (.bipush 7, 2) := by decide +kernel
theorem dX12_init_34 : decode cX12_init 34 = .ok (.newarray .int, 2) := by decide +kernel
theorem dX12_init_36 : decode cX12_init 36 = .ok (.putfield 19, 3) := by decide +kernel
theorem dX12_init_39 : decode cX12_init 39 = .ok (.aload_n 0, 1) := by decide +kernel
theorem dX12_init_40 : decode cX12_init 40 = .ok (.bipush 16, 2) := by decide +kernel
theorem dX12_init_42 : decode cX12_init 42 = .ok (.newarray .int, 2) := by decide +kernel
theorem dX12_init_44 : decode cX12_init 44 = .ok (.putfield 22, 3) := by decide +kernel
theorem dX12_init_47 : decode cX12_init 47 = .ok (.aload_n 0, 1) := by decide +kernel
theorem dX12_init_48 : decode cX12_init 48 = .ok (.bipush 24, 2) := by decide +kernel
theorem dX12_init_50 : decode cX12_init 50 = .ok (.newarray .int, 2) := by decide +kernel
theorem dX12_init_52 : decode cX12_init 52 = .ok (.putfield 25, 3) := by decide +kernel
theorem dX12_init_55 : decode cX12_init 55 = .ok (.aload_n 0, 1) := by decide +kernel
theorem dX12_init_56 : decode cX12_init 56 = .ok (.bipush 64, 2) := by decide +kernel
theorem dX12_init_58 : decode cX12_init 58 = .ok (.newarray .int, 2) := by decide +kernel
theorem dX12_init_60 : decode cX12_init 60 = .ok (.putfield 28, 3) := by decide +kernel
theorem dX12_init_63 : decode cX12_init 63 = .ok (.aload_n 0, 1) := by decide +kernel
theorem dX12_init_64 : decode cX12_init 64 = .ok (.bipush 12, 2) := by decide +kernel
theorem dX12_init_66 : decode cX12_init 66 = .ok (.newarray .int, 2) := by decide +kernel
theorem dX12_init_68 : decode cX12_init 68 = .ok (.putfield 31, 3) := by decide +kernel
theorem dX12_init_71 : decode cX12_init 71 = .ok (.aload_n 0, 1) := by decide +kernel
theorem dX12_init_72 : decode cX12_init 72 = .ok (.iconst 4, 1) := by decide +kernel
theorem dX12_init_73 : decode cX12_init 73 = .ok (.newarray .int, 2) := by decide +kernel
theorem dX12_init_75 : decode cX12_init 75 = .ok (.putfield 34, 3) := by decide +kernel
theorem dX12_init_78 : decode cX12_init 78 = .ok (.aload_n 0, 1) := by decide +kernel
theorem dX12_init_79 : decode cX12_init 79 = .ok (.bipush 64, 2) := by decide +kernel
theorem dX12_init_81 : decode cX12_init 81 = .ok (.newarray .int, 2) := by decide +kernel
theorem dX12_init_83 : decode cX12_init 83 = .ok (.putfield 37, 3) := by decide +kernel
theorem dX12_init_86 : decode cX12_init 86 = .ok (.aload_n 0, 1) := by decide +kernel
theorem dX12_init_87 : decode cX12_init 87 = .ok (.iconst 5, 1) := by decide +kernel
theorem dX12_init_88 : decode cX12_init 88 = .ok (.newarray .int, 2) := by decide +kernel
theorem dX12_init_90 : decode cX12_init 90 = .ok (.putfield 40, 3) := by decide +kernel
theorem dX12_init_93 : decode cX12_init 93 = .ok (.aload_n 0, 1) := by decide +kernel
theorem dX12_init_94 : decode cX12_init 94 = .ok (.iconst 5, 1) := by decide +kernel
theorem dX12_init_95 : decode cX12_init 95 = .ok (.newarray .int, 2) := by decide +kernel
theorem dX12_init_97 : decode cX12_init 97 = .ok (.putfield 43, 3) := by decide +kernel
theorem dX12_init_100 : decode cX12_init 100 = .ok (.aload_n 0, 1) := by decide +kernel
theorem dX12_init_101 : decode cX12_init 101 = .ok (.bipush 32, 2) := by decide +kernel
theorem dX12_init_103 : decode cX12_init 103 = .ok (.newarray .int, 2) := by decide +kernel
theorem dX12_init_105 : decode cX12_init 105 = .ok (.putfield 46, 3) := by decide +kernel
theorem dX12_init_108 : decode cX12_init 108 = .ok (.aload_n 0, 1) := by decide +kernel
theorem dX12_init_109 : decode cX12_init 109 = .ok (.bipush 16, 2) := by decide +kernel
theorem dX12_init_111 : decode cX12_init 111 = .ok (.newarray .int, 2) := by decide +kernel
theorem dX12_init_113 : decode cX12_init 113 = .ok (.putfield 49, 3) := by decide +kernel
theorem dX12_init_116 : decode cX12_init 116 = .ok (.aload_n 0, 1) := by decide +kernel
theorem dX12_init_117 : decode cX12_init 117 = .ok (.bipush 30, 2) := by decide +kernel
theorem dX12_init_119 : decode cX12_init 119 = .ok (.newarray .int, 2) := by decide +kernel
theorem dX12_init_121 : decode cX12_init 121 = .ok (.putfield 52, 3) := by decide +kernel
theorem dX12_init_124 : decode cX12_init 124 = .ok (.aload_n 0, 1) := by decide +kernel
theorem dX12_init_125 : decode cX12_init 125 = .ok (.iconst 4, 1) := by decide +kernel
theorem dX12_init_126 : decode cX12_init 126 = .ok (.newarray .int, 2) := by decide +kernel
theorem dX12_init_128 : decode cX12_init 128 = .ok (.putfield 55, 3) := by decide +kernel
theorem dX12_init_131 : decode cX12_init 131 = .ok (.aload_n 0, 1) := by decide +kernel
theorem dX12_init_132 : decode cX12_init 132 = .ok (.iconst 4, 1) := by decide +kernel
theorem dX12_init_133 : decode cX12_init 133 = .ok (.newarray .int, 2) := by decide +kernel
theorem dX12_init_135 : decode cX12_init 135 = .ok (.putfield 58, 3) := by decide +kernel
theorem dX12_init_138 : decode cX12_init 138 = .ok (.aload_n 0, 1) := by decide +kernel
theorem dX12_init_139 : decode cX12_init 139 = .ok (.bipush 96, 2) := by decide +kernel
theorem dX12_init_141 : decode cX12_init 141 = .ok (.newarray .int, 2) := by decide +kernel
theorem dX12_init_143 : decode cX12_init 143 = .ok (.putfield 61, 3) := by decide +kernel
theorem dX12_init_146 : decode cX12_init 146 = .ok (.return_, 1) := by decide +kernel
def D_X12_init (N : Nat) (h : mh_H) (l0 : Nat) : Option mh_H :=
  (nA h 0 (7794 : Int32)).bind fun h1 =>
  (pR h1 12 l0 0 (mh_n h)).bind fun h2 =>
  (nA h2 0 (7794 : Int32)).bind fun h3 =>
  (pR h3 12 l0 1 (mh_n h2)).bind fun h4 =>
  (nA h4 0 (7794 : Int32)).bind fun h5 =>
  (pR h5 12 l0 2 (mh_n h4)).bind fun h6 =>
  (nA h6 0 (7 : Int32)).bind fun h7 =>
  (pR h7 12 l0 4 (mh_n h6)).bind fun h8 =>
  (nA h8 0 (16 : Int32)).bind fun h9 =>
  (pR h9 12 l0 5 (mh_n h8)).bind fun h10 =>
  (nA h10 0 (24 : Int32)).bind fun h11 =>
  (pR h11 12 l0 6 (mh_n h10)).bind fun h12 =>
  (nA h12 0 (64 : Int32)).bind fun h13 =>
  (pR h13 12 l0 7 (mh_n h12)).bind fun h14 =>
  (nA h14 0 (12 : Int32)).bind fun h15 =>
  (pR h15 12 l0 8 (mh_n h14)).bind fun h16 =>
  (nA h16 0 (4 : Int32)).bind fun h17 =>
  (pR h17 12 l0 15 (mh_n h16)).bind fun h18 =>
  (nA h18 0 (64 : Int32)).bind fun h19 =>
  (pR h19 12 l0 16 (mh_n h18)).bind fun h20 =>
  (nA h20 0 (5 : Int32)).bind fun h21 =>
  (pR h21 12 l0 17 (mh_n h20)).bind fun h22 =>
  (nA h22 0 (5 : Int32)).bind fun h23 =>
  (pR h23 12 l0 18 (mh_n h22)).bind fun h24 =>
  (nA h24 0 (32 : Int32)).bind fun h25 =>
  (pR h25 12 l0 19 (mh_n h24)).bind fun h26 =>
  (nA h26 0 (16 : Int32)).bind fun h27 =>
  (pR h27 12 l0 20 (mh_n h26)).bind fun h28 =>
  (nA h28 0 (30 : Int32)).bind fun h29 =>
  (pR h29 12 l0 21 (mh_n h28)).bind fun h30 =>
  (nA h30 0 (4 : Int32)).bind fun h31 =>
  (pR h31 12 l0 27 (mh_n h30)).bind fun h32 =>
  (nA h32 0 (4 : Int32)).bind fun h33 =>
  (pR h33 12 l0 28 (mh_n h32)).bind fun h34 =>
  (nA h34 0 (96 : Int32)).bind fun h35 =>
  (pR h35 12 l0 29 (mh_n h34)).bind fun h36 =>
  some h36
set_option maxHeartbeats 4000000 in
set_option maxRecDepth 100000 in
theorem T_X12_init {P : mh_E → Prop} {N d : Nat} (hd : 1 ≤ d) {z : mh_H} {h : mh_H} {l0 : Nat} (hq : D_X12_init N h l0 = some z) : mh_go P d mX12_init 0 [some (.ref l0)] [] h none z := by
  unfold D_X12_init at hq
  refine st_aload_n (pc := 0) dX12_init_0 rfl ?_
  refine st_obj (pc := 1) dX12_init_1 wd_1173 wd_oi wd_oc (Nat.le_trans (by decide) hd) (Nat.le_of_ble_eq_true rfl) ?_
  refine st_aload_n (pc := 4) dX12_init_4 rfl ?_
  refine st_sipush (pc := 5) (v := (7794 : Int32)) dX12_init_5 (by decide) ?_
  refine bd_newa (pc := 8) hq dX12_init_8 (fun h1 hq => ?_)
  refine bd_putr (pc := 10) hq dX12_init_10 fl_12_9_12 (Or.inr ⟨rfl, rfl⟩) rfl (Or.inr ⟨_, rfl⟩) (fun h2 hq => ?_)
  refine st_aload_n (pc := 13) dX12_init_13 rfl ?_
  refine st_sipush (pc := 14) (v := (7794 : Int32)) dX12_init_14 (by decide) ?_
  refine bd_newa (pc := 17) hq dX12_init_17 (fun h3 hq => ?_)
  refine bd_putr (pc := 19) hq dX12_init_19 fl_12_13_12 (Or.inr ⟨rfl, rfl⟩) rfl (Or.inr ⟨_, rfl⟩) (fun h4 hq => ?_)
  refine st_aload_n (pc := 22) dX12_init_22 rfl ?_
  refine st_sipush (pc := 23) (v := (7794 : Int32)) dX12_init_23 (by decide) ?_
  refine bd_newa (pc := 26) hq dX12_init_26 (fun h5 hq => ?_)
  refine bd_putr (pc := 28) hq dX12_init_28 fl_12_16_12 (Or.inr ⟨rfl, rfl⟩) rfl (Or.inr ⟨_, rfl⟩) (fun h6 hq => ?_)
  refine st_aload_n (pc := 31) dX12_init_31 rfl ?_
  refine st_bipush (pc := 32) (v := (7 : Int32)) dX12_init_32 (by decide) ?_
  refine bd_newa (pc := 34) hq dX12_init_34 (fun h7 hq => ?_)
  refine bd_putr (pc := 36) hq dX12_init_36 fl_12_19_12 (Or.inr ⟨rfl, rfl⟩) rfl (Or.inr ⟨_, rfl⟩) (fun h8 hq => ?_)
  refine st_aload_n (pc := 39) dX12_init_39 rfl ?_
  refine st_bipush (pc := 40) (v := (16 : Int32)) dX12_init_40 (by decide) ?_
  refine bd_newa (pc := 42) hq dX12_init_42 (fun h9 hq => ?_)
  refine bd_putr (pc := 44) hq dX12_init_44 fl_12_22_12 (Or.inr ⟨rfl, rfl⟩) rfl (Or.inr ⟨_, rfl⟩) (fun h10 hq => ?_)
  refine st_aload_n (pc := 47) dX12_init_47 rfl ?_
  refine st_bipush (pc := 48) (v := (24 : Int32)) dX12_init_48 (by decide) ?_
  refine bd_newa (pc := 50) hq dX12_init_50 (fun h11 hq => ?_)
  refine bd_putr (pc := 52) hq dX12_init_52 fl_12_25_12 (Or.inr ⟨rfl, rfl⟩) rfl (Or.inr ⟨_, rfl⟩) (fun h12 hq => ?_)
  refine st_aload_n (pc := 55) dX12_init_55 rfl ?_
  refine st_bipush (pc := 56) (v := (64 : Int32)) dX12_init_56 (by decide) ?_
  refine bd_newa (pc := 58) hq dX12_init_58 (fun h13 hq => ?_)
  refine bd_putr (pc := 60) hq dX12_init_60 fl_12_28_12 (Or.inr ⟨rfl, rfl⟩) rfl (Or.inr ⟨_, rfl⟩) (fun h14 hq => ?_)
  refine st_aload_n (pc := 63) dX12_init_63 rfl ?_
  refine st_bipush (pc := 64) (v := (12 : Int32)) dX12_init_64 (by decide) ?_
  refine bd_newa (pc := 66) hq dX12_init_66 (fun h15 hq => ?_)
  refine bd_putr (pc := 68) hq dX12_init_68 fl_12_31_12 (Or.inr ⟨rfl, rfl⟩) rfl (Or.inr ⟨_, rfl⟩) (fun h16 hq => ?_)
  refine st_aload_n (pc := 71) dX12_init_71 rfl ?_
  refine st_iconst (pc := 72) (v := (4 : Int32)) dX12_init_72 rfl ?_
  refine bd_newa (pc := 73) hq dX12_init_73 (fun h17 hq => ?_)
  refine bd_putr (pc := 75) hq dX12_init_75 fl_12_34_12 (Or.inr ⟨rfl, rfl⟩) rfl (Or.inr ⟨_, rfl⟩) (fun h18 hq => ?_)
  refine st_aload_n (pc := 78) dX12_init_78 rfl ?_
  refine st_bipush (pc := 79) (v := (64 : Int32)) dX12_init_79 (by decide) ?_
  refine bd_newa (pc := 81) hq dX12_init_81 (fun h19 hq => ?_)
  refine bd_putr (pc := 83) hq dX12_init_83 fl_12_37_12 (Or.inr ⟨rfl, rfl⟩) rfl (Or.inr ⟨_, rfl⟩) (fun h20 hq => ?_)
  refine st_aload_n (pc := 86) dX12_init_86 rfl ?_
  refine st_iconst (pc := 87) (v := (5 : Int32)) dX12_init_87 rfl ?_
  refine bd_newa (pc := 88) hq dX12_init_88 (fun h21 hq => ?_)
  refine bd_putr (pc := 90) hq dX12_init_90 fl_12_40_12 (Or.inr ⟨rfl, rfl⟩) rfl (Or.inr ⟨_, rfl⟩) (fun h22 hq => ?_)
  refine st_aload_n (pc := 93) dX12_init_93 rfl ?_
  refine st_iconst (pc := 94) (v := (5 : Int32)) dX12_init_94 rfl ?_
  refine bd_newa (pc := 95) hq dX12_init_95 (fun h23 hq => ?_)
  refine bd_putr (pc := 97) hq dX12_init_97 fl_12_43_12 (Or.inr ⟨rfl, rfl⟩) rfl (Or.inr ⟨_, rfl⟩) (fun h24 hq => ?_)
  refine st_aload_n (pc := 100) dX12_init_100 rfl ?_
  refine st_bipush (pc := 101) (v := (32 : Int32)) dX12_init_101 (by decide) ?_
  refine bd_newa (pc := 103) hq dX12_init_103 (fun h25 hq => ?_)
  refine bd_putr (pc := 105) hq dX12_init_105 fl_12_46_12 (Or.inr ⟨rfl, rfl⟩) rfl (Or.inr ⟨_, rfl⟩) (fun h26 hq => ?_)
  refine st_aload_n (pc := 108) dX12_init_108 rfl ?_
  refine st_bipush (pc := 109) (v := (16 : Int32)) dX12_init_109 (by decide) ?_
  refine bd_newa (pc := 111) hq dX12_init_111 (fun h27 hq => ?_)
  refine bd_putr (pc := 113) hq dX12_init_113 fl_12_49_12 (Or.inr ⟨rfl, rfl⟩) rfl (Or.inr ⟨_, rfl⟩) (fun h28 hq => ?_)
  refine st_aload_n (pc := 116) dX12_init_116 rfl ?_
  refine st_bipush (pc := 117) (v := (30 : Int32)) dX12_init_117 (by decide) ?_
  refine bd_newa (pc := 119) hq dX12_init_119 (fun h29 hq => ?_)
  refine bd_putr (pc := 121) hq dX12_init_121 fl_12_52_12 (Or.inr ⟨rfl, rfl⟩) rfl (Or.inr ⟨_, rfl⟩) (fun h30 hq => ?_)
  refine st_aload_n (pc := 124) dX12_init_124 rfl ?_
  refine st_iconst (pc := 125) (v := (4 : Int32)) dX12_init_125 rfl ?_
  refine bd_newa (pc := 126) hq dX12_init_126 (fun h31 hq => ?_)
  refine bd_putr (pc := 128) hq dX12_init_128 fl_12_55_12 (Or.inr ⟨rfl, rfl⟩) rfl (Or.inr ⟨_, rfl⟩) (fun h32 hq => ?_)
  refine st_aload_n (pc := 131) dX12_init_131 rfl ?_
  refine st_iconst (pc := 132) (v := (4 : Int32)) dX12_init_132 rfl ?_
  refine bd_newa (pc := 133) hq dX12_init_133 (fun h33 hq => ?_)
  refine bd_putr (pc := 135) hq dX12_init_135 fl_12_58_12 (Or.inr ⟨rfl, rfl⟩) rfl (Or.inr ⟨_, rfl⟩) (fun h34 hq => ?_)
  refine st_aload_n (pc := 138) dX12_init_138 rfl ?_
  refine st_bipush (pc := 139) (v := (96 : Int32)) dX12_init_139 (by decide) ?_
  refine bd_newa (pc := 141) hq dX12_init_141 (fun h35 hq => ?_)
  refine bd_putr (pc := 143) hq dX12_init_143 fl_12_61_12 (Or.inr ⟨rfl, rfl⟩) rfl (Or.inr ⟨_, rfl⟩) (fun h36 hq => ?_)
  exact bd_vret (pc := 146) hq dX12_init_146 rfl
-- HoleWaterModel.error(I)I
theorem dX12_error_0 : decode cX12_error 0 = .ok (.aload_n 0, 1) := by decide +kernel
theorem dX12_error_1 : decode cX12_error 1 = .ok (.getfield 19, 3) := by decide +kernel
theorem dX12_error_4 : decode cX12_error 4 = .ok (.iload_n 1, 1) := by decide +kernel
theorem dX12_error_5 : decode cX12_error 5 = .ok (.dup2, 1) := by decide +kernel
theorem dX12_error_6 : decode cX12_error 6 = .ok (.iaload, 1) := by decide +kernel
theorem dX12_error_7 : decode cX12_error 7 = .ok (.iconst 1, 1) := by decide +kernel
theorem dX12_error_8 : decode cX12_error 8 = .ok (.iadd, 1) := by decide +kernel
theorem dX12_error_9 : decode cX12_error 9 = .ok (.iastore, 1) := by decide +kernel
theorem dX12_error_10 : decode cX12_error 10 = .ok (.ldc 64, 2) := by decide +kernel
theorem dX12_error_12 : decode cX12_error 12 = .ok (.iload_n 1, 1) := by decide +kernel
theorem dX12_error_13 : decode cX12_error 13 = .ok (.isub, 1) := by decide +kernel
theorem dX12_error_14 : decode cX12_error 14 = .ok (.ireturn, 1) := by decide +kernel
def D_X12_error (N : Nat) (h : mh_H) (l0 : Nat) (l1 : Int32) : Option (Int32 × mh_H) :=
  (gR h 12 l0 4).bind fun v1 =>
  (aI h v1 l1).bind fun v2 =>
  (uI h v1 l1 (v2 + (1 : Int32))).bind fun h3 =>
  some ((-1000000 : Int32) - l1, h3)
set_option maxHeartbeats 4000000 in
set_option maxRecDepth 100000 in
theorem T_X12_error {P : mh_E → Prop} {N d : Nat} (hd : 1 ≤ d) {z : (Int32 × mh_H)} {h : mh_H} {l0 : Nat} {l1 : Int32} (hq : D_X12_error N h l0 l1 = some z) : mh_go P d mX12_error 0 [some (.ref l0), some (.int l1)] [] h (some (.int z.1)) z.2 := by
  unfold D_X12_error at hq
  refine st_aload_n (pc := 0) dX12_error_0 rfl ?_
  refine bd_getr (pc := 1) hq dX12_error_1 fl_12_19_12 rfl (fun v1 hq => ?_)
  refine st_iload_n (pc := 4) dX12_error_4 rfl ?_
  refine st_dup2 (pc := 5) dX12_error_5 rfl rfl ?_
  refine bd_iald (pc := 6) hq dX12_error_6 (fun v2 hq => ?_)
  refine st_iconst (pc := 7) (v := (1 : Int32)) dX12_error_7 rfl ?_
  refine st_iadd (pc := 8) dX12_error_8 ?_
  refine bd_iast (pc := 9) hq dX12_error_9 (fun h3 hq => ?_)
  refine st_ldc (pc := 10) (v := (-1000000 : Int32)) dX12_error_10 wd_1278 ?_
  refine st_iload_n (pc := 12) dX12_error_12 rfl ?_
  refine st_isub (pc := 13) dX12_error_13 ?_
  exact bd_iret (pc := 14) hq dX12_error_14 rfl
-- HoleWaterModel.in(JJJ)Z
theorem dX12_in_0 : decode cX12_in 0 = .ok (.lload_n 0, 1) := by decide +kernel
theorem dX12_in_1 : decode cX12_in 1 = .ok (.lload_n 2, 1) := by decide +kernel
theorem dX12_in_2 : decode cX12_in 2 = .ok (.lcmp, 1) := by decide +kernel
theorem dX12_in_3 : decode cX12_in 3 = .ok (.ifCond .lt 14, 3) := by decide +kernel
theorem dX12_in_17 : decode cX12_in 17 = .ok (.iconst 0, 1) := by decide +kernel
theorem dX12_in_18 : decode cX12_in 18 = .ok (.ireturn, 1) := by decide +kernel
theorem dX12_in_6 : decode cX12_in 6 = .ok (.lload_n 0, 1) := by decide +kernel
theorem dX12_in_7 : decode cX12_in 7 = .ok (.lload 4, 2) := by decide +kernel
theorem dX12_in_9 : decode cX12_in 9 = .ok (.lcmp, 1) := by decide +kernel
theorem dX12_in_10 : decode cX12_in 10 = .ok (.ifCond .gt 7, 3) := by decide +kernel
theorem dX12_in_13 : decode cX12_in 13 = .ok (.iconst 1, 1) := by decide +kernel
theorem dX12_in_14 : decode cX12_in 14 = .ok (.goto 4, 3) := by decide +kernel
def D_X12_in (N : Nat) (h : mh_H) (l0 : Int64) (l2 : Int64) (l4 : Int64) : Option (Int32 × mh_H) :=
  if (lg_cmp l0 l2) < 0 then (zB (0 : Int32) h)
  else (if 0 < (lg_cmp l0 l4) then (zB (0 : Int32) h)
  else (zB (1 : Int32) h))
set_option maxHeartbeats 4000000 in
set_option maxRecDepth 100000 in
theorem T_X12_in {P : mh_E → Prop} {N d : Nat} (hd : 1 ≤ d) {z : (Int32 × mh_H)} {h : mh_H} {l0 : Int64} {l2 : Int64} {l4 : Int64} (hq : D_X12_in N h l0 l2 l4 = some z) : mh_go P d mX12_in 0 [some (.long l0), none, some (.long l2), none, some (.long l4), none] [] h (some (.int z.1)) z.2 := by
  unfold D_X12_in at hq
  refine st_lload_n (pc := 0) dX12_in_0 rfl ?_
  refine st_lload_n (pc := 1) dX12_in_1 rfl ?_
  refine st_lcmp (pc := 2) dX12_in_2 ?_
  refine bd_if_lt (pc := 3) (tgt := 17) hq dX12_in_3 (by decide) (fun _ hq => ?_) (fun _ hq => ?_)
  ·
    refine st_iconst (pc := 17) (v := (0 : Int32)) dX12_in_17 rfl ?_
    exact bd_zret (pc := 18) hq dX12_in_18 rfl
  ·
    refine st_lload_n (pc := 6) dX12_in_6 rfl ?_
    refine st_lload (pc := 7) dX12_in_7 rfl ?_
    refine st_lcmp (pc := 9) dX12_in_9 ?_
    refine bd_if_gt (pc := 10) (tgt := 17) hq dX12_in_10 (by decide) (fun _ hq => ?_) (fun _ hq => ?_)
    ·
      refine st_iconst (pc := 17) (v := (0 : Int32)) dX12_in_17 rfl ?_
      exact bd_zret (pc := 18) hq dX12_in_18 rfl
    ·
      refine st_iconst (pc := 13) (v := (1 : Int32)) dX12_in_13 rfl ?_
      refine st_goto (pc := 14) (tgt := 18) dX12_in_14 (by decide) ?_
      exact bd_zret (pc := 18) hq dX12_in_18 rfl
-- HoleWaterModel.isJoint(I)Z
theorem dX12_isJoint_0 : decode cX12_isJoint 0 = .ok (.iload_n 1, 1) := by decide +kernel
theorem dX12_isJoint_1 : decode cX12_isJoint 1 = .ok (.i2l, 1) := by decide +kernel
theorem dX12_isJoint_2 : decode cX12_isJoint 2 = .ok (.lconst 0, 1) := by decide +kernel
theorem dX12_isJoint_3 : decode cX12_isJoint 3 = .ok (.aload_n 0, 1) := by decide +kernel
theorem dX12_isJoint_4 : decode cX12_isJoint 4 = .ok (.getfield 9, 3) := by decide +kernel
theorem dX12_isJoint_7 : decode cX12_isJoint 7 = .ok (.iconst 1, 1) := by decide +kernel
theorem dX12_isJoint_8 : decode cX12_isJoint 8 = .ok (.iaload, 1) := by decide +kernel
theorem dX12_isJoint_9 : decode cX12_isJoint 9 = .ok (.iconst 1, 1) := by decide +kernel
theorem dX12_isJoint_10 : decode cX12_isJoint 10 = .ok (.isub, 1) := by decide +kernel
theorem dX12_isJoint_11 : decode cX12_isJoint 11 = .ok (.i2l, 1) := by decide +kernel
theorem dX12_isJoint_12 : decode cX12_isJoint 12 = .ok (.invokestatic 65, 3) := by decide +kernel
theorem dX12_isJoint_15 : decode cX12_isJoint 15 = .ok (.ireturn, 1) := by decide +kernel
def D_X12_isJoint (N : Nat) (h : mh_H) (l0 : Nat) (l1 : Int32) : Option (Int32 × mh_H) :=
  (gR h 12 l0 0).bind fun v1 =>
  (aI h v1 (1 : Int32)).bind fun v2 =>
  (D_X12_in N h l1.toInt64 (0 : Int64) ((v2 - (1 : Int32)).toInt64)).bind fun q3 =>
  zB q3.1 q3.2
set_option maxHeartbeats 4000000 in
set_option maxRecDepth 100000 in
theorem T_X12_isJoint {P : mh_E → Prop} {N d : Nat} (hd : 2 ≤ d) {z : (Int32 × mh_H)} {h : mh_H} {l0 : Nat} {l1 : Int32} (hq : D_X12_isJoint N h l0 l1 = some z) : mh_go P d mX12_isJoint 0 [some (.ref l0), some (.int l1)] [] h (some (.int z.1)) z.2 := by
  unfold D_X12_isJoint at hq
  refine st_iload_n (pc := 0) dX12_isJoint_0 rfl ?_
  refine st_i2l (pc := 1) dX12_isJoint_1 ?_
  refine st_lconst (pc := 2) (v := 0) dX12_isJoint_2 rfl ?_
  refine st_aload_n (pc := 3) dX12_isJoint_3 rfl ?_
  refine bd_getr (pc := 4) hq dX12_isJoint_4 fl_12_9_12 rfl (fun v1 hq => ?_)
  refine st_iconst (pc := 7) (v := (1 : Int32)) dX12_isJoint_7 rfl ?_
  refine bd_iald (pc := 8) hq dX12_isJoint_8 (fun v2 hq => ?_)
  refine st_iconst (pc := 9) (v := (1 : Int32)) dX12_isJoint_9 rfl ?_
  refine st_isub (pc := 10) dX12_isJoint_10 ?_
  refine st_i2l (pc := 11) dX12_isJoint_11 ?_
  obtain ⟨q3, e3, hq⟩ := mh_ob hq
  refine st_invS (pc := 12) (Y := mX12_in) (vs := [.long l1.toInt64, .long (0 : Int64), .long ((v2 - (1 : Int32)).toInt64)]) (rest := []) (st2 := [.int q3.1]) dX12_isJoint_12 okX12_in wd_1270 wd_1271 pdX12_in rfl rfl rfl rfl (Nat.le_trans (by decide) hd) (Nat.le_of_ble_eq_true rfl) (T_X12_in (Nat.le_refl _) e3) rfl ?_
  exact bd_zret (pc := 15) hq dX12_isJoint_15 rfl
-- HoleWaterModel.isWay(I)Z
theorem dX12_isWay_0 : decode cX12_isWay 0 = .ok (.iload_n 1, 1) := by decide +kernel
theorem dX12_isWay_1 : decode cX12_isWay 1 = .ok (.i2l, 1) := by decide +kernel
theorem dX12_isWay_2 : decode cX12_isWay 2 = .ok (.lconst 0, 1) := by decide +kernel
theorem dX12_isWay_3 : decode cX12_isWay 3 = .ok (.aload_n 0, 1) := by decide +kernel
theorem dX12_isWay_4 : decode cX12_isWay 4 = .ok (.getfield 9, 3) := by decide +kernel
theorem dX12_isWay_7 : decode cX12_isWay 7 = .ok (.iconst 2, 1) := by decide +kernel
theorem dX12_isWay_8 : decode cX12_isWay 8 = .ok (.iaload, 1) := by decide +kernel
theorem dX12_isWay_9 : decode cX12_isWay 9 = .ok (.iconst 1, 1) := by decide +kernel
theorem dX12_isWay_10 : decode cX12_isWay 10 = .ok (.isub, 1) := by decide +kernel
theorem dX12_isWay_11 : decode cX12_isWay 11 = .ok (.i2l, 1) := by decide +kernel
theorem dX12_isWay_12 : decode cX12_isWay 12 = .ok (.invokestatic 65, 3) := by decide +kernel
theorem dX12_isWay_15 : decode cX12_isWay 15 = .ok (.ireturn, 1) := by decide +kernel
def D_X12_isWay (N : Nat) (h : mh_H) (l0 : Nat) (l1 : Int32) : Option (Int32 × mh_H) :=
  (gR h 12 l0 0).bind fun v1 =>
  (aI h v1 (2 : Int32)).bind fun v2 =>
  (D_X12_in N h l1.toInt64 (0 : Int64) ((v2 - (1 : Int32)).toInt64)).bind fun q3 =>
  zB q3.1 q3.2
set_option maxHeartbeats 4000000 in
set_option maxRecDepth 100000 in
theorem T_X12_isWay {P : mh_E → Prop} {N d : Nat} (hd : 2 ≤ d) {z : (Int32 × mh_H)} {h : mh_H} {l0 : Nat} {l1 : Int32} (hq : D_X12_isWay N h l0 l1 = some z) : mh_go P d mX12_isWay 0 [some (.ref l0), some (.int l1)] [] h (some (.int z.1)) z.2 := by
  unfold D_X12_isWay at hq
  refine st_iload_n (pc := 0) dX12_isWay_0 rfl ?_
  refine st_i2l (pc := 1) dX12_isWay_1 ?_
  refine st_lconst (pc := 2) (v := 0) dX12_isWay_2 rfl ?_
  refine st_aload_n (pc := 3) dX12_isWay_3 rfl ?_
  refine bd_getr (pc := 4) hq dX12_isWay_4 fl_12_9_12 rfl (fun v1 hq => ?_)
  refine st_iconst (pc := 7) (v := (2 : Int32)) dX12_isWay_7 rfl ?_
  refine bd_iald (pc := 8) hq dX12_isWay_8 (fun v2 hq => ?_)
  refine st_iconst (pc := 9) (v := (1 : Int32)) dX12_isWay_9 rfl ?_
  refine st_isub (pc := 10) dX12_isWay_10 ?_
  refine st_i2l (pc := 11) dX12_isWay_11 ?_
  obtain ⟨q3, e3, hq⟩ := mh_ob hq
  refine st_invS (pc := 12) (Y := mX12_in) (vs := [.long l1.toInt64, .long (0 : Int64), .long ((v2 - (1 : Int32)).toInt64)]) (rest := []) (st2 := [.int q3.1]) dX12_isWay_12 okX12_in wd_1270 wd_1271 pdX12_in rfl rfl rfl rfl (Nat.le_trans (by decide) hd) (Nat.le_of_ble_eq_true rfl) (T_X12_in (Nat.le_refl _) e3) rfl ?_
  exact bd_zret (pc := 15) hq dX12_isWay_15 rfl
-- HoleWaterModel.isColour(I)Z
theorem dX12_isColour_0 : decode cX12_isColour 0 = .ok (.iload_n 0, 1) := by decide +kernel
theorem dX12_isColour_1 : decode cX12_isColour 1 = .ok (.i2l, 1) := by decide +kernel
theorem dX12_isColour_2 : decode cX12_isColour 2 = .ok (.lconst 0, 1) := by decide +kernel
theorem dX12_isColour_3 : decode cX12_isColour 3 = .ok (.ldc2_w 69, 3) := by decide +kernel
theorem dX12_isColour_6 : decode cX12_isColour 6 = .ok (.invokestatic 65, 3) := by decide +kernel
theorem dX12_isColour_9 : decode cX12_isColour 9 = .ok (.ireturn, 1) := by decide +kernel
def D_X12_isColour (N : Nat) (h : mh_H) (l0 : Int32) : Option (Int32 × mh_H) :=
  (D_X12_in N h l0.toInt64 (0 : Int64) (3 : Int64)).bind fun q1 =>
  zB q1.1 q1.2
set_option maxHeartbeats 4000000 in
set_option maxRecDepth 100000 in
theorem T_X12_isColour {P : mh_E → Prop} {N d : Nat} (hd : 2 ≤ d) {z : (Int32 × mh_H)} {h : mh_H} {l0 : Int32} (hq : D_X12_isColour N h l0 = some z) : mh_go P d mX12_isColour 0 [some (.int l0)] [] h (some (.int z.1)) z.2 := by
  unfold D_X12_isColour at hq
  refine st_iload_n (pc := 0) dX12_isColour_0 rfl ?_
  refine st_i2l (pc := 1) dX12_isColour_1 ?_
  refine st_lconst (pc := 2) (v := 0) dX12_isColour_2 rfl ?_
  refine st_ldc2 (pc := 3) (v := (3 : Int64)) dX12_isColour_3 wd_1269 ?_
  obtain ⟨q1, e1, hq⟩ := mh_ob hq
  refine st_invS (pc := 6) (Y := mX12_in) (vs := [.long l0.toInt64, .long (0 : Int64), .long (3 : Int64)]) (rest := []) (st2 := [.int q1.1]) dX12_isColour_6 okX12_in wd_1270 wd_1271 pdX12_in rfl rfl rfl rfl (Nat.le_trans (by decide) hd) (Nat.le_of_ble_eq_true rfl) (T_X12_in (Nat.le_refl _) e1) rfl ?_
  exact bd_zret (pc := 9) hq dX12_isColour_9 rfl
-- HoleWaterModel.joint(I)I
theorem dX12_joint_0 : decode cX12_joint 0 = .ok (.bipush 44, 2) := by decide +kernel
theorem dX12_joint_2 : decode cX12_joint 2 = .ok (.bipush 11, 2) := by decide +kernel
theorem dX12_joint_4 : decode cX12_joint 4 = .ok (.iload_n 0, 1) := by decide +kernel
theorem dX12_joint_5 : decode cX12_joint 5 = .ok (.imul, 1) := by decide +kernel
theorem dX12_joint_6 : decode cX12_joint 6 = .ok (.iadd, 1) := by decide +kernel
theorem dX12_joint_7 : decode cX12_joint 7 = .ok (.ireturn, 1) := by decide +kernel
def D_X12_joint (N : Nat) (h : mh_H) (l0 : Int32) : Option (Int32 × mh_H) :=
  some ((44 : Int32) + ((11 : Int32) * l0), h)
set_option maxHeartbeats 4000000 in
set_option maxRecDepth 100000 in
theorem T_X12_joint {P : mh_E → Prop} {N d : Nat} (hd : 1 ≤ d) {z : (Int32 × mh_H)} {h : mh_H} {l0 : Int32} (hq : D_X12_joint N h l0 = some z) : mh_go P d mX12_joint 0 [some (.int l0)] [] h (some (.int z.1)) z.2 := by
  unfold D_X12_joint at hq
  refine st_bipush (pc := 0) (v := (44 : Int32)) dX12_joint_0 (by decide) ?_
  refine st_bipush (pc := 2) (v := (11 : Int32)) dX12_joint_2 (by decide) ?_
  refine st_iload_n (pc := 4) dX12_joint_4 rfl ?_
  refine st_imul (pc := 5) dX12_joint_5 ?_
  refine st_iadd (pc := 6) dX12_joint_6 ?_
  exact bd_iret (pc := 7) hq dX12_joint_7 rfl
-- HoleWaterModel.way(I)I
theorem dX12_way_0 : decode cX12_way 0 = .ok (.sipush 220, 3) := by decide +kernel
theorem dX12_way_3 : decode cX12_way 3 = .ok (.sipush 215, 3) := by decide +kernel
theorem dX12_way_6 : decode cX12_way 6 = .ok (.iload_n 0, 1) := by decide +kernel
theorem dX12_way_7 : decode cX12_way 7 = .ok (.imul, 1) := by decide +kernel
theorem dX12_way_8 : decode cX12_way 8 = .ok (.iadd, 1) := by decide +kernel
theorem dX12_way_9 : decode cX12_way 9 = .ok (.ireturn, 1) := by decide +kernel
def D_X12_way (N : Nat) (h : mh_H) (l0 : Int32) : Option (Int32 × mh_H) :=
  some ((220 : Int32) + ((215 : Int32) * l0), h)
set_option maxHeartbeats 4000000 in
set_option maxRecDepth 100000 in
theorem T_X12_way {P : mh_E → Prop} {N d : Nat} (hd : 1 ≤ d) {z : (Int32 × mh_H)} {h : mh_H} {l0 : Int32} (hq : D_X12_way N h l0 = some z) : mh_go P d mX12_way 0 [some (.int l0)] [] h (some (.int z.1)) z.2 := by
  unfold D_X12_way at hq
  refine st_sipush (pc := 0) (v := (220 : Int32)) dX12_way_0 (by decide) ?_
  refine st_sipush (pc := 3) (v := (215 : Int32)) dX12_way_3 (by decide) ?_
  refine st_iload_n (pc := 6) dX12_way_6 rfl ?_
  refine st_imul (pc := 7) dX12_way_7 ?_
  refine st_iadd (pc := 8) dX12_way_8 ?_
  exact bd_iret (pc := 9) hq dX12_way_9 rfl
-- HoleWaterModel.sort(I)I
theorem dX12_sort_0 : decode cX12_sort 0 = .ok (.aload_n 0, 1) := by decide +kernel
theorem dX12_sort_1 : decode cX12_sort 1 = .ok (.getfield 9, 3) := by decide +kernel
theorem dX12_sort_4 : decode cX12_sort 4 = .ok (.iload_n 1, 1) := by decide +kernel
theorem dX12_sort_5 : decode cX12_sort 5 = .ok (.invokestatic 71, 3) := by decide +kernel
theorem dX12_sort_8 : decode cX12_sort 8 = .ok (.iaload, 1) := by decide +kernel
theorem dX12_sort_9 : decode cX12_sort 9 = .ok (.ireturn, 1) := by decide +kernel
def D_X12_sort (N : Nat) (h : mh_H) (l0 : Nat) (l1 : Int32) : Option (Int32 × mh_H) :=
  (gR h 12 l0 0).bind fun v1 =>
  (D_X12_joint N h l1).bind fun q2 =>
  (aI q2.2 v1 q2.1).bind fun v3 =>
  some (v3, q2.2)
set_option maxHeartbeats 4000000 in
set_option maxRecDepth 100000 in
theorem T_X12_sort {P : mh_E → Prop} {N d : Nat} (hd : 2 ≤ d) {z : (Int32 × mh_H)} {h : mh_H} {l0 : Nat} {l1 : Int32} (hq : D_X12_sort N h l0 l1 = some z) : mh_go P d mX12_sort 0 [some (.ref l0), some (.int l1)] [] h (some (.int z.1)) z.2 := by
  unfold D_X12_sort at hq
  refine st_aload_n (pc := 0) dX12_sort_0 rfl ?_
  refine bd_getr (pc := 1) hq dX12_sort_1 fl_12_9_12 rfl (fun v1 hq => ?_)
  refine st_iload_n (pc := 4) dX12_sort_4 rfl ?_
  obtain ⟨q2, e2, hq⟩ := mh_ob hq
  refine st_invS (pc := 5) (Y := mX12_joint) (vs := [.int l1]) (rest := [.ref v1]) (st2 := [.int q2.1, .ref v1]) dX12_sort_5 okX12_joint wd_1279 wd_1280 pdX12_joint rfl rfl rfl rfl (Nat.le_trans (by decide) hd) (Nat.le_of_ble_eq_true rfl) (T_X12_joint (Nat.le_refl _) e2) rfl ?_
  refine bd_iald (pc := 8) hq dX12_sort_8 (fun v3 hq => ?_)
  exact bd_iret (pc := 9) hq dX12_sort_9 rfl
-- HoleWaterModel.isHole(I)Z
theorem dX12_isHole_0 : decode cX12_isHole 0 = .ok (.aload_n 0, 1) := by decide +kernel
theorem dX12_isHole_1 : decode cX12_isHole 1 = .ok (.iload_n 1, 1) := by decide +kernel
theorem dX12_isHole_2 : decode cX12_isHole 2 = .ok (.invokevirtual 75, 3) := by decide +kernel
theorem dX12_isHole_5 : decode cX12_isHole 5 = .ok (.ifCond .ne 7, 3) := by decide +kernel
theorem dX12_isHole_8 : decode cX12_isHole 8 = .ok (.iconst 1, 1) := by decide +kernel
theorem dX12_isHole_9 : decode cX12_isHole 9 = .ok (.goto 4, 3) := by decide +kernel
theorem dX12_isHole_13 : decode cX12_isHole 13 = .ok (.ireturn, 1) := by decide +kernel
theorem dX12_isHole_12 : decode cX12_isHole 12 = .ok (.iconst 0, 1) := by decide +kernel
def D_X12_isHole (N : Nat) (h : mh_H) (l0 : Nat) (l1 : Int32) : Option (Int32 × mh_H) :=
  kO h 12 l0 <|
  (D_X12_sort N h l0 l1).bind fun q1 =>
  if q1.1 = 0 then (zB (1 : Int32) q1.2)
  else (zB (0 : Int32) q1.2)
set_option maxHeartbeats 4000000 in
set_option maxRecDepth 100000 in
theorem T_X12_isHole {P : mh_E → Prop} {N d : Nat} (hd : 3 ≤ d) {z : (Int32 × mh_H)} {h : mh_H} {l0 : Nat} {l1 : Int32} (hq : D_X12_isHole N h l0 l1 = some z) : mh_go P d mX12_isHole 0 [some (.ref l0), some (.int l1)] [] h (some (.int z.1)) z.2 := by
  unfold D_X12_isHole at hq
  refine st_aload_n (pc := 0) dX12_isHole_0 rfl ?_
  refine st_iload_n (pc := 1) dX12_isHole_1 rfl ?_
  obtain ⟨⟨hbq1, hkq1⟩, hq⟩ := mh_oi hq
  obtain ⟨q1, e1, hq⟩ := mh_ob hq
  refine st_invV (pc := 2) (ci := 12) (vs := [.int l1]) (rest := []) (st2 := [.int q1.1]) dX12_isHole_2 okX12_sort (by decide) hkq1 hbq1 wd_1301 wd_1303 wp_40 pdX12_sort rfl rfl rfl rfl (Nat.le_trans (by decide) hd) (Nat.le_of_ble_eq_true rfl) (T_X12_sort (Nat.le_refl _) e1) rfl ?_
  refine bd_if_ne (pc := 5) (tgt := 12) hq dX12_isHole_5 (by decide) (fun _ hq => ?_) (fun _ hq => ?_)
  ·
    refine st_iconst (pc := 8) (v := (1 : Int32)) dX12_isHole_8 rfl ?_
    refine st_goto (pc := 9) (tgt := 13) dX12_isHole_9 (by decide) ?_
    exact bd_zret (pc := 13) hq dX12_isHole_13 rfl
  ·
    refine st_iconst (pc := 12) (v := (0 : Int32)) dX12_isHole_12 rfl ?_
    exact bd_zret (pc := 13) hq dX12_isHole_13 rfl
-- HoleWaterModel.isSpring(I)Z
theorem dX12_isSpring_0 : decode cX12_isSpring 0 = .ok (.aload_n 0, 1) := by decide +kernel
theorem dX12_isSpring_1 : decode cX12_isSpring 1 = .ok (.iload_n 1, 1) := by decide +kernel
theorem dX12_isSpring_2 : decode cX12_isSpring 2 = .ok (.invokevirtual 75, 3) := by decide +kernel
theorem dX12_isSpring_5 : decode cX12_isSpring 5 = .ok (.iconst 2, 1) := by decide +kernel
theorem dX12_isSpring_6 : decode cX12_isSpring 6 = .ok (.if_icmp .ne 7, 3) := by decide +kernel
theorem dX12_isSpring_9 : decode cX12_isSpring 9 = .ok (.iconst 1, 1) := by decide +kernel
theorem dX12_isSpring_10 : decode cX12_isSpring 10 = .ok (.goto 4, 3) := by decide +kernel
theorem dX12_isSpring_14 : decode cX12_isSpring 14 = .ok (.ireturn, 1) := by decide +kernel
theorem dX12_isSpring_13 : decode cX12_isSpring 13 = .ok (.iconst 0, 1) := by decide +kernel
def D_X12_isSpring (N : Nat) (h : mh_H) (l0 : Nat) (l1 : Int32) : Option (Int32 × mh_H) :=
  kO h 12 l0 <|
  (D_X12_sort N h l0 l1).bind fun q1 =>
  if q1.1 = (2 : Int32) then (zB (1 : Int32) q1.2)
  else (zB (0 : Int32) q1.2)
set_option maxHeartbeats 4000000 in
set_option maxRecDepth 100000 in
theorem T_X12_isSpring {P : mh_E → Prop} {N d : Nat} (hd : 3 ≤ d) {z : (Int32 × mh_H)} {h : mh_H} {l0 : Nat} {l1 : Int32} (hq : D_X12_isSpring N h l0 l1 = some z) : mh_go P d mX12_isSpring 0 [some (.ref l0), some (.int l1)] [] h (some (.int z.1)) z.2 := by
  unfold D_X12_isSpring at hq
  refine st_aload_n (pc := 0) dX12_isSpring_0 rfl ?_
  refine st_iload_n (pc := 1) dX12_isSpring_1 rfl ?_
  obtain ⟨⟨hbq1, hkq1⟩, hq⟩ := mh_oi hq
  obtain ⟨q1, e1, hq⟩ := mh_ob hq
  refine st_invV (pc := 2) (ci := 12) (vs := [.int l1]) (rest := []) (st2 := [.int q1.1]) dX12_isSpring_2 okX12_sort (by decide) hkq1 hbq1 wd_1301 wd_1303 wp_40 pdX12_sort rfl rfl rfl rfl (Nat.le_trans (by decide) hd) (Nat.le_of_ble_eq_true rfl) (T_X12_sort (Nat.le_refl _) e1) rfl ?_
  refine st_iconst (pc := 5) (v := (2 : Int32)) dX12_isSpring_5 rfl ?_
  refine bd_icmp_ne (pc := 6) (tgt := 13) hq dX12_isSpring_6 (by decide) (fun _ hq => ?_) (fun _ hq => ?_)
  ·
    refine st_iconst (pc := 9) (v := (1 : Int32)) dX12_isSpring_9 rfl ?_
    refine st_goto (pc := 10) (tgt := 14) dX12_isSpring_10 (by decide) ?_
    exact bd_zret (pc := 14) hq dX12_isSpring_14 rfl
  ·
    refine st_iconst (pc := 13) (v := (0 : Int32)) dX12_isSpring_13 rfl ?_
    exact bd_zret (pc := 14) hq dX12_isSpring_14 rfl
-- HoleWaterModel.isEnd(I)Z
theorem dX12_isEnd_0 : decode cX12_isEnd 0 = .ok (.aload_n 0, 1) := by decide +kernel
theorem dX12_isEnd_1 : decode cX12_isEnd 1 = .ok (.iload_n 1, 1) := by decide +kernel
theorem dX12_isEnd_2 : decode cX12_isEnd 2 = .ok (.invokevirtual 75, 3) := by decide +kernel
theorem dX12_isEnd_5 : decode cX12_isEnd 5 = .ok (.iconst 2, 1) := by decide +kernel
theorem dX12_isEnd_6 : decode cX12_isEnd 6 = .ok (.if_icmp .lt 7, 3) := by decide +kernel
theorem dX12_isEnd_13 : decode cX12_isEnd 13 = .ok (.iconst 0, 1) := by decide +kernel
theorem dX12_isEnd_14 : decode cX12_isEnd 14 = .ok (.ireturn, 1) := by decide +kernel
theorem dX12_isEnd_9 : decode cX12_isEnd 9 = .ok (.iconst 1, 1) := by decide +kernel
theorem dX12_isEnd_10 : decode cX12_isEnd 10 = .ok (.goto 4, 3) := by decide +kernel
def D_X12_isEnd (N : Nat) (h : mh_H) (l0 : Nat) (l1 : Int32) : Option (Int32 × mh_H) :=
  kO h 12 l0 <|
  (D_X12_sort N h l0 l1).bind fun q1 =>
  if q1.1 < (2 : Int32) then (zB (0 : Int32) q1.2)
  else (zB (1 : Int32) q1.2)
set_option maxHeartbeats 4000000 in
set_option maxRecDepth 100000 in
theorem T_X12_isEnd {P : mh_E → Prop} {N d : Nat} (hd : 3 ≤ d) {z : (Int32 × mh_H)} {h : mh_H} {l0 : Nat} {l1 : Int32} (hq : D_X12_isEnd N h l0 l1 = some z) : mh_go P d mX12_isEnd 0 [some (.ref l0), some (.int l1)] [] h (some (.int z.1)) z.2 := by
  unfold D_X12_isEnd at hq
  refine st_aload_n (pc := 0) dX12_isEnd_0 rfl ?_
  refine st_iload_n (pc := 1) dX12_isEnd_1 rfl ?_
  obtain ⟨⟨hbq1, hkq1⟩, hq⟩ := mh_oi hq
  obtain ⟨q1, e1, hq⟩ := mh_ob hq
  refine st_invV (pc := 2) (ci := 12) (vs := [.int l1]) (rest := []) (st2 := [.int q1.1]) dX12_isEnd_2 okX12_sort (by decide) hkq1 hbq1 wd_1301 wd_1303 wp_40 pdX12_sort rfl rfl rfl rfl (Nat.le_trans (by decide) hd) (Nat.le_of_ble_eq_true rfl) (T_X12_sort (Nat.le_refl _) e1) rfl ?_
  refine st_iconst (pc := 5) (v := (2 : Int32)) dX12_isEnd_5 rfl ?_
  refine bd_icmp_lt (pc := 6) (tgt := 13) hq dX12_isEnd_6 (by decide) (fun _ hq => ?_) (fun _ hq => ?_)
  ·
    refine st_iconst (pc := 13) (v := (0 : Int32)) dX12_isEnd_13 rfl ?_
    exact bd_zret (pc := 14) hq dX12_isEnd_14 rfl
  ·
    refine st_iconst (pc := 9) (v := (1 : Int32)) dX12_isEnd_9 rfl ?_
    refine st_goto (pc := 10) (tgt := 14) dX12_isEnd_10 (by decide) ?_
    exact bd_zret (pc := 14) hq dX12_isEnd_14 rfl
-- HoleWaterModel.joint(III)I
theorem dX12_joint__36 : decode cX12_joint_ 36 = .ok (.aload_n 0, 1) := by decide +kernel
theorem dX12_joint__37 : decode cX12_joint_ 37 = .ok (.iconst 1, 1) := by decide +kernel
theorem dX12_joint__38 : decode cX12_joint_ 38 = .ok (.invokevirtual 80, 3) := by decide +kernel
theorem dX12_joint__41 : decode cX12_joint_ 41 = .ok (.ireturn, 1) := by decide +kernel
theorem dX12_joint__96 : decode cX12_joint_ 96 = .ok (.iload 5, 2) := by decide +kernel
theorem dX12_joint__98 : decode cX12_joint_ 98 = .ok (.bipush 96, 2) := by decide +kernel
theorem dX12_joint__100 : decode cX12_joint_ 100 = .ok (.if_icmp .ge 27, 3) := by decide +kernel
theorem dX12_joint__127 : decode cX12_joint_ 127 = .ok (.aload_n 0, 1) := by decide +kernel
theorem dX12_joint__128 : decode cX12_joint_ 128 = .ok (.getfield 9, 3) := by decide +kernel
theorem dX12_joint__131 : decode cX12_joint_ 131 = .ok (.iload 4, 2) := by decide +kernel
theorem dX12_joint__133 : decode cX12_joint_ 133 = .ok (.invokestatic 71, 3) := by decide +kernel
theorem dX12_joint__136 : decode cX12_joint_ 136 = .ok (.iload_n 1, 1) := by decide +kernel
theorem dX12_joint__137 : decode cX12_joint_ 137 = .ok (.iastore, 1) := by decide +kernel
theorem dX12_joint__138 : decode cX12_joint_ 138 = .ok (.aload_n 0, 1) := by decide +kernel
theorem dX12_joint__139 : decode cX12_joint_ 139 = .ok (.getfield 9, 3) := by decide +kernel
theorem dX12_joint__142 : decode cX12_joint_ 142 = .ok (.iload 4, 2) := by decide +kernel
theorem dX12_joint__144 : decode cX12_joint_ 144 = .ok (.invokestatic 71, 3) := by decide +kernel
theorem dX12_joint__147 : decode cX12_joint_ 147 = .ok (.iconst 1, 1) := by decide +kernel
theorem dX12_joint__148 : decode cX12_joint_ 148 = .ok (.iadd, 1) := by decide +kernel
theorem dX12_joint__149 : decode cX12_joint_ 149 = .ok (.iload_n 2, 1) := by decide +kernel
theorem dX12_joint__150 : decode cX12_joint_ 150 = .ok (.iastore, 1) := by decide +kernel
theorem dX12_joint__151 : decode cX12_joint_ 151 = .ok (.aload_n 0, 1) := by decide +kernel
theorem dX12_joint__152 : decode cX12_joint_ 152 = .ok (.getfield 9, 3) := by decide +kernel
theorem dX12_joint__155 : decode cX12_joint_ 155 = .ok (.iload 4, 2) := by decide +kernel
theorem dX12_joint__157 : decode cX12_joint_ 157 = .ok (.invokestatic 71, 3) := by decide +kernel
theorem dX12_joint__160 : decode cX12_joint_ 160 = .ok (.iconst 2, 1) := by decide +kernel
theorem dX12_joint__161 : decode cX12_joint_ 161 = .ok (.iadd, 1) := by decide +kernel
theorem dX12_joint__162 : decode cX12_joint_ 162 = .ok (.iload_n 3, 1) := by decide +kernel
theorem dX12_joint__163 : decode cX12_joint_ 163 = .ok (.iastore, 1) := by decide +kernel
theorem dX12_joint__164 : decode cX12_joint_ 164 = .ok (.aload_n 0, 1) := by decide +kernel
theorem dX12_joint__165 : decode cX12_joint_ 165 = .ok (.getfield 9, 3) := by decide +kernel
theorem dX12_joint__168 : decode cX12_joint_ 168 = .ok (.iconst 1, 1) := by decide +kernel
theorem dX12_joint__169 : decode cX12_joint_ 169 = .ok (.dup2, 1) := by decide +kernel
theorem dX12_joint__170 : decode cX12_joint_ 170 = .ok (.iaload, 1) := by decide +kernel
theorem dX12_joint__171 : decode cX12_joint_ 171 = .ok (.iconst 1, 1) := by decide +kernel
theorem dX12_joint__172 : decode cX12_joint_ 172 = .ok (.iadd, 1) := by decide +kernel
theorem dX12_joint__173 : decode cX12_joint_ 173 = .ok (.iastore, 1) := by decide +kernel
theorem dX12_joint__174 : decode cX12_joint_ 174 = .ok (.iload 4, 2) := by decide +kernel
theorem dX12_joint__176 : decode cX12_joint_ 176 = .ok (.ireturn, 1) := by decide +kernel
theorem dX12_joint__103 : decode cX12_joint_ 103 = .ok (.aload_n 0, 1) := by decide +kernel
theorem dX12_joint__104 : decode cX12_joint_ 104 = .ok (.getfield 9, 3) := by decide +kernel
theorem dX12_joint__107 : decode cX12_joint_ 107 = .ok (.sipush 5380, 3) := by decide +kernel
theorem dX12_joint__110 : decode cX12_joint_ 110 = .ok (.bipush 96, 2) := by decide +kernel
theorem dX12_joint__112 : decode cX12_joint_ 112 = .ok (.iload 4, 2) := by decide +kernel
theorem dX12_joint__114 : decode cX12_joint_ 114 = .ok (.imul, 1) := by decide +kernel
theorem dX12_joint__115 : decode cX12_joint_ 115 = .ok (.iadd, 1) := by decide +kernel
theorem dX12_joint__116 : decode cX12_joint_ 116 = .ok (.iload 5, 2) := by decide +kernel
theorem dX12_joint__118 : decode cX12_joint_ 118 = .ok (.iadd, 1) := by decide +kernel
theorem dX12_joint__119 : decode cX12_joint_ 119 = .ok (.iconst 0, 1) := by decide +kernel
theorem dX12_joint__120 : decode cX12_joint_ 120 = .ok (.iastore, 1) := by decide +kernel
theorem dX12_joint__121 : decode cX12_joint_ 121 = .ok (.iinc 5 1, 3) := by decide +kernel
theorem dX12_joint__124 : decode cX12_joint_ 124 = .ok (.goto (-28), 3) := by decide +kernel
theorem dX12_joint__66 : decode cX12_joint_ 66 = .ok (.iload 5, 2) := by decide +kernel
theorem dX12_joint__68 : decode cX12_joint_ 68 = .ok (.bipush 11, 2) := by decide +kernel
theorem dX12_joint__70 : decode cX12_joint_ 70 = .ok (.if_icmp .ge 23, 3) := by decide +kernel
theorem dX12_joint__93 : decode cX12_joint_ 93 = .ok (.iconst 0, 1) := by decide +kernel
theorem dX12_joint__94 : decode cX12_joint_ 94 = .ok (.istore 5, 2) := by decide +kernel
theorem dX12_joint__73 : decode cX12_joint_ 73 = .ok (.aload_n 0, 1) := by decide +kernel
theorem dX12_joint__74 : decode cX12_joint_ 74 = .ok (.getfield 9, 3) := by decide +kernel
theorem dX12_joint__77 : decode cX12_joint_ 77 = .ok (.iload 4, 2) := by decide +kernel
theorem dX12_joint__79 : decode cX12_joint_ 79 = .ok (.invokestatic 71, 3) := by decide +kernel
theorem dX12_joint__82 : decode cX12_joint_ 82 = .ok (.iload 5, 2) := by decide +kernel
theorem dX12_joint__84 : decode cX12_joint_ 84 = .ok (.iadd, 1) := by decide +kernel
theorem dX12_joint__85 : decode cX12_joint_ 85 = .ok (.iconst 0, 1) := by decide +kernel
theorem dX12_joint__86 : decode cX12_joint_ 86 = .ok (.iastore, 1) := by decide +kernel
theorem dX12_joint__87 : decode cX12_joint_ 87 = .ok (.iinc 5 1, 3) := by decide +kernel
theorem dX12_joint__90 : decode cX12_joint_ 90 = .ok (.goto (-24), 3) := by decide +kernel
theorem dX12_joint__0 : decode cX12_joint_ 0 = .ok (.iload_n 1, 1) := by decide +kernel
theorem dX12_joint__1 : decode cX12_joint_ 1 = .ok (.i2l, 1) := by decide +kernel
theorem dX12_joint__2 : decode cX12_joint_ 2 = .ok (.lconst 0, 1) := by decide +kernel
theorem dX12_joint__3 : decode cX12_joint_ 3 = .ok (.ldc2_w 69, 3) := by decide +kernel
theorem dX12_joint__6 : decode cX12_joint_ 6 = .ok (.invokestatic 65, 3) := by decide +kernel
theorem dX12_joint__9 : decode cX12_joint_ 9 = .ok (.ifCond .eq 27, 3) := by decide +kernel
theorem dX12_joint__12 : decode cX12_joint_ 12 = .ok (.iload_n 2, 1) := by decide +kernel
theorem dX12_joint__13 : decode cX12_joint_ 13 = .ok (.i2l, 1) := by decide +kernel
theorem dX12_joint__14 : decode cX12_joint_ 14 = .ok (.lconst 0, 1) := by decide +kernel
theorem dX12_joint__15 : decode cX12_joint_ 15 = .ok (.ldc2_w 78, 3) := by decide +kernel
theorem dX12_joint__18 : decode cX12_joint_ 18 = .ok (.invokestatic 65, 3) := by decide +kernel
theorem dX12_joint__21 : decode cX12_joint_ 21 = .ok (.ifCond .eq 15, 3) := by decide +kernel
theorem dX12_joint__24 : decode cX12_joint_ 24 = .ok (.iload_n 3, 1) := by decide +kernel
theorem dX12_joint__25 : decode cX12_joint_ 25 = .ok (.i2l, 1) := by decide +kernel
theorem dX12_joint__26 : decode cX12_joint_ 26 = .ok (.lconst 0, 1) := by decide +kernel
theorem dX12_joint__27 : decode cX12_joint_ 27 = .ok (.ldc2_w 78, 3) := by decide +kernel
theorem dX12_joint__30 : decode cX12_joint_ 30 = .ok (.invokestatic 65, 3) := by decide +kernel
theorem dX12_joint__33 : decode cX12_joint_ 33 = .ok (.ifCond .ne 9, 3) := by decide +kernel
theorem dX12_joint__42 : decode cX12_joint_ 42 = .ok (.aload_n 0, 1) := by decide +kernel
theorem dX12_joint__43 : decode cX12_joint_ 43 = .ok (.getfield 9, 3) := by decide +kernel
theorem dX12_joint__46 : decode cX12_joint_ 46 = .ok (.iconst 1, 1) := by decide +kernel
theorem dX12_joint__47 : decode cX12_joint_ 47 = .ok (.iaload, 1) := by decide +kernel
theorem dX12_joint__48 : decode cX12_joint_ 48 = .ok (.istore 4, 2) := by decide +kernel
theorem dX12_joint__50 : decode cX12_joint_ 50 = .ok (.iload 4, 2) := by decide +kernel
theorem dX12_joint__52 : decode cX12_joint_ 52 = .ok (.bipush 16, 2) := by decide +kernel
theorem dX12_joint__54 : decode cX12_joint_ 54 = .ok (.if_icmp .ne 9, 3) := by decide +kernel
theorem dX12_joint__57 : decode cX12_joint_ 57 = .ok (.aload_n 0, 1) := by decide +kernel
theorem dX12_joint__58 : decode cX12_joint_ 58 = .ok (.iconst 4, 1) := by decide +kernel
theorem dX12_joint__59 : decode cX12_joint_ 59 = .ok (.invokevirtual 80, 3) := by decide +kernel
theorem dX12_joint__62 : decode cX12_joint_ 62 = .ok (.ireturn, 1) := by decide +kernel
theorem dX12_joint__63 : decode cX12_joint_ 63 = .ok (.iconst 0, 1) := by decide +kernel
theorem dX12_joint__64 : decode cX12_joint_ 64 = .ok (.istore 5, 2) := by decide +kernel
def D_X12_joint__36 (N : Nat) (h : mh_H) (l0 : Nat) : Option (Int32 × mh_H) :=
  kO h 12 l0 <|
  (D_X12_error N h l0 (1 : Int32)).bind fun q1 =>
  some (q1.1, q1.2)
set_option maxHeartbeats 4000000 in
set_option maxRecDepth 100000 in
theorem T_X12_joint__36 {P : mh_E → Prop} {N d : Nat} (hd : 2 ≤ d) {z : (Int32 × mh_H)} {h : mh_H} {l0 : Nat} (hq : D_X12_joint__36 N h l0 = some z) : mh_go P d mX12_joint_ 36 [some (.ref l0), none, none, none, none, none] [] h (some (.int z.1)) z.2 := by
  unfold D_X12_joint__36 at hq
  refine st_aload_n (pc := 36) dX12_joint__36 rfl ?_
  refine st_iconst (pc := 37) (v := (1 : Int32)) dX12_joint__37 rfl ?_
  obtain ⟨⟨hbq1, hkq1⟩, hq⟩ := mh_oi hq
  obtain ⟨q1, e1, hq⟩ := mh_ob hq
  refine st_invV (pc := 38) (ci := 12) (vs := [.int (1 : Int32)]) (rest := []) (st2 := [.int q1.1]) dX12_joint__38 okX12_error (by decide) hkq1 hbq1 wd_1274 wd_1276 wp_37 pdX12_error rfl rfl rfl rfl (Nat.le_trans (by decide) hd) (Nat.le_of_ble_eq_true rfl) (T_X12_error (Nat.le_refl _) e1) rfl ?_
  exact bd_iret (pc := 41) hq dX12_joint__41 rfl
def D_X12_joint__96 (N : Nat) : Nat → mh_H → Nat → Int32 → Int32 → Int32 → Int32 → Int32 → Option (Int32 × mh_H)
  | 0, _, _, _, _, _, _, _ => none
  | F + 1, h, l0, l1, l2, l3, l4, l5 =>
    if (96 : Int32) ≤ l5 then ((gR h 12 l0 0).bind fun v1 =>
    (D_X12_joint N h l4).bind fun q2 =>
    (uI q2.2 v1 q2.1 l1).bind fun h3 =>
    (gR h3 12 l0 0).bind fun v4 =>
    (D_X12_joint N h3 l4).bind fun q5 =>
    (uI q5.2 v4 (q5.1 + (1 : Int32)) l2).bind fun h6 =>
    (gR h6 12 l0 0).bind fun v7 =>
    (D_X12_joint N h6 l4).bind fun q8 =>
    (uI q8.2 v7 (q8.1 + (2 : Int32)) l3).bind fun h9 =>
    (gR h9 12 l0 0).bind fun v10 =>
    (aI h9 v10 (1 : Int32)).bind fun v11 =>
    (uI h9 v10 (1 : Int32) (v11 + (1 : Int32))).bind fun h12 =>
    some (l4, h12))
    else ((gR h 12 l0 0).bind fun v1 =>
    (uI h v1 (((5380 : Int32) + ((96 : Int32) * l4)) + l5) (0 : Int32)).bind fun h2 =>
    (D_X12_joint__96 N F) h2 l0 l1 l2 l3 l4 (l5 + Int32.ofInt (1)))
set_option maxHeartbeats 4000000 in
set_option maxRecDepth 100000 in
theorem T_X12_joint__96 {P : mh_E → Prop} {N d : Nat} (hd : 2 ≤ d) {z : (Int32 × mh_H)} : ∀ (F : Nat) (h : mh_H) (l0 : Nat) (l1 : Int32) (l2 : Int32) (l3 : Int32) (l4 : Int32) (l5 : Int32), D_X12_joint__96 N F h l0 l1 l2 l3 l4 l5 = some z → mh_go P d mX12_joint_ 96 [some (.ref l0), some (.int l1), some (.int l2), some (.int l3), some (.int l4), some (.int l5)] [] h (some (.int z.1)) z.2 := by
  intro F
  induction F with
  | zero => intro h l0 l1 l2 l3 l4 l5 hq; rw [D_X12_joint__96] at hq; cases hq
  | succ F ih =>
    intro h l0 l1 l2 l3 l4 l5 hq
    rw [D_X12_joint__96] at hq
    refine st_iload (pc := 96) dX12_joint__96 rfl ?_
    refine st_bipush (pc := 98) (v := (96 : Int32)) dX12_joint__98 (by decide) ?_
    refine bd_icmp_ge (pc := 100) (tgt := 127) hq dX12_joint__100 (by decide) (fun _ hq => ?_) (fun _ hq => ?_)
    ·
      refine st_aload_n (pc := 127) dX12_joint__127 rfl ?_
      refine bd_getr (pc := 128) hq dX12_joint__128 fl_12_9_12 rfl (fun v1 hq => ?_)
      refine st_iload (pc := 131) dX12_joint__131 rfl ?_
      obtain ⟨q2, e2, hq⟩ := mh_ob hq
      refine st_invS (pc := 133) (Y := mX12_joint) (vs := [.int l4]) (rest := [.ref v1]) (st2 := [.int q2.1, .ref v1]) dX12_joint__133 okX12_joint wd_1279 wd_1280 pdX12_joint rfl rfl rfl rfl (Nat.le_trans (by decide) hd) (Nat.le_of_ble_eq_true rfl) (T_X12_joint (Nat.le_refl _) e2) rfl ?_
      refine st_iload_n (pc := 136) dX12_joint__136 rfl ?_
      refine bd_iast (pc := 137) hq dX12_joint__137 (fun h3 hq => ?_)
      refine st_aload_n (pc := 138) dX12_joint__138 rfl ?_
      refine bd_getr (pc := 139) hq dX12_joint__139 fl_12_9_12 rfl (fun v4 hq => ?_)
      refine st_iload (pc := 142) dX12_joint__142 rfl ?_
      obtain ⟨q5, e5, hq⟩ := mh_ob hq
      refine st_invS (pc := 144) (Y := mX12_joint) (vs := [.int l4]) (rest := [.ref v4]) (st2 := [.int q5.1, .ref v4]) dX12_joint__144 okX12_joint wd_1279 wd_1280 pdX12_joint rfl rfl rfl rfl (Nat.le_trans (by decide) hd) (Nat.le_of_ble_eq_true rfl) (T_X12_joint (Nat.le_refl _) e5) rfl ?_
      refine st_iconst (pc := 147) (v := (1 : Int32)) dX12_joint__147 rfl ?_
      refine st_iadd (pc := 148) dX12_joint__148 ?_
      refine st_iload_n (pc := 149) dX12_joint__149 rfl ?_
      refine bd_iast (pc := 150) hq dX12_joint__150 (fun h6 hq => ?_)
      refine st_aload_n (pc := 151) dX12_joint__151 rfl ?_
      refine bd_getr (pc := 152) hq dX12_joint__152 fl_12_9_12 rfl (fun v7 hq => ?_)
      refine st_iload (pc := 155) dX12_joint__155 rfl ?_
      obtain ⟨q8, e8, hq⟩ := mh_ob hq
      refine st_invS (pc := 157) (Y := mX12_joint) (vs := [.int l4]) (rest := [.ref v7]) (st2 := [.int q8.1, .ref v7]) dX12_joint__157 okX12_joint wd_1279 wd_1280 pdX12_joint rfl rfl rfl rfl (Nat.le_trans (by decide) hd) (Nat.le_of_ble_eq_true rfl) (T_X12_joint (Nat.le_refl _) e8) rfl ?_
      refine st_iconst (pc := 160) (v := (2 : Int32)) dX12_joint__160 rfl ?_
      refine st_iadd (pc := 161) dX12_joint__161 ?_
      refine st_iload_n (pc := 162) dX12_joint__162 rfl ?_
      refine bd_iast (pc := 163) hq dX12_joint__163 (fun h9 hq => ?_)
      refine st_aload_n (pc := 164) dX12_joint__164 rfl ?_
      refine bd_getr (pc := 165) hq dX12_joint__165 fl_12_9_12 rfl (fun v10 hq => ?_)
      refine st_iconst (pc := 168) (v := (1 : Int32)) dX12_joint__168 rfl ?_
      refine st_dup2 (pc := 169) dX12_joint__169 rfl rfl ?_
      refine bd_iald (pc := 170) hq dX12_joint__170 (fun v11 hq => ?_)
      refine st_iconst (pc := 171) (v := (1 : Int32)) dX12_joint__171 rfl ?_
      refine st_iadd (pc := 172) dX12_joint__172 ?_
      refine bd_iast (pc := 173) hq dX12_joint__173 (fun h12 hq => ?_)
      refine st_iload (pc := 174) dX12_joint__174 rfl ?_
      exact bd_iret (pc := 176) hq dX12_joint__176 rfl
    ·
      refine st_aload_n (pc := 103) dX12_joint__103 rfl ?_
      refine bd_getr (pc := 104) hq dX12_joint__104 fl_12_9_12 rfl (fun v1 hq => ?_)
      refine st_sipush (pc := 107) (v := (5380 : Int32)) dX12_joint__107 (by decide) ?_
      refine st_bipush (pc := 110) (v := (96 : Int32)) dX12_joint__110 (by decide) ?_
      refine st_iload (pc := 112) dX12_joint__112 rfl ?_
      refine st_imul (pc := 114) dX12_joint__114 ?_
      refine st_iadd (pc := 115) dX12_joint__115 ?_
      refine st_iload (pc := 116) dX12_joint__116 rfl ?_
      refine st_iadd (pc := 118) dX12_joint__118 ?_
      refine st_iconst (pc := 119) (v := (0 : Int32)) dX12_joint__119 rfl ?_
      refine bd_iast (pc := 120) hq dX12_joint__120 (fun h2 hq => ?_)
      refine st_iinc (pc := 121) (lv' := [some (.ref l0), some (.int l1), some (.int l2), some (.int l3), some (.int l4), some (.int (l5 + Int32.ofInt (1)))]) dX12_joint__121 rfl rfl (by decide) rfl ?_
      refine st_goto (pc := 124) (tgt := 96) dX12_joint__124 (by decide) ?_
      exact ih _ _ _ _ _ _ _ hq
def D_X12_joint__66 (N : Nat) : Nat → mh_H → Nat → Int32 → Int32 → Int32 → Int32 → Int32 → Option (Int32 × mh_H)
  | 0, _, _, _, _, _, _, _ => none
  | F + 1, h, l0, l1, l2, l3, l4, l5 =>
    if (11 : Int32) ≤ l5 then (D_X12_joint__96 N N h l0 l1 l2 l3 l4 (0 : Int32))
    else ((gR h 12 l0 0).bind fun v1 =>
    (D_X12_joint N h l4).bind fun q2 =>
    (uI q2.2 v1 (q2.1 + l5) (0 : Int32)).bind fun h3 =>
    (D_X12_joint__66 N F) h3 l0 l1 l2 l3 l4 (l5 + Int32.ofInt (1)))
set_option maxHeartbeats 4000000 in
set_option maxRecDepth 100000 in
theorem T_X12_joint__66 {P : mh_E → Prop} {N d : Nat} (hd : 2 ≤ d) {z : (Int32 × mh_H)} : ∀ (F : Nat) (h : mh_H) (l0 : Nat) (l1 : Int32) (l2 : Int32) (l3 : Int32) (l4 : Int32) (l5 : Int32), D_X12_joint__66 N F h l0 l1 l2 l3 l4 l5 = some z → mh_go P d mX12_joint_ 66 [some (.ref l0), some (.int l1), some (.int l2), some (.int l3), some (.int l4), some (.int l5)] [] h (some (.int z.1)) z.2 := by
  intro F
  induction F with
  | zero => intro h l0 l1 l2 l3 l4 l5 hq; rw [D_X12_joint__66] at hq; cases hq
  | succ F ih =>
    intro h l0 l1 l2 l3 l4 l5 hq
    rw [D_X12_joint__66] at hq
    refine st_iload (pc := 66) dX12_joint__66 rfl ?_
    refine st_bipush (pc := 68) (v := (11 : Int32)) dX12_joint__68 (by decide) ?_
    refine bd_icmp_ge (pc := 70) (tgt := 93) hq dX12_joint__70 (by decide) (fun _ hq => ?_) (fun _ hq => ?_)
    ·
      refine st_iconst (pc := 93) (v := (0 : Int32)) dX12_joint__93 rfl ?_
      refine st_istore (pc := 94) (lv' := [some (.ref l0), some (.int l1), some (.int l2), some (.int l3), some (.int l4), some (.int (0 : Int32))]) dX12_joint__94 rfl (by decide) rfl ?_
      exact T_X12_joint__96 hd N _ _ _ _ _ _ _ hq
    ·
      refine st_aload_n (pc := 73) dX12_joint__73 rfl ?_
      refine bd_getr (pc := 74) hq dX12_joint__74 fl_12_9_12 rfl (fun v1 hq => ?_)
      refine st_iload (pc := 77) dX12_joint__77 rfl ?_
      obtain ⟨q2, e2, hq⟩ := mh_ob hq
      refine st_invS (pc := 79) (Y := mX12_joint) (vs := [.int l4]) (rest := [.ref v1]) (st2 := [.int q2.1, .ref v1]) dX12_joint__79 okX12_joint wd_1279 wd_1280 pdX12_joint rfl rfl rfl rfl (Nat.le_trans (by decide) hd) (Nat.le_of_ble_eq_true rfl) (T_X12_joint (Nat.le_refl _) e2) rfl ?_
      refine st_iload (pc := 82) dX12_joint__82 rfl ?_
      refine st_iadd (pc := 84) dX12_joint__84 ?_
      refine st_iconst (pc := 85) (v := (0 : Int32)) dX12_joint__85 rfl ?_
      refine bd_iast (pc := 86) hq dX12_joint__86 (fun h3 hq => ?_)
      refine st_iinc (pc := 87) (lv' := [some (.ref l0), some (.int l1), some (.int l2), some (.int l3), some (.int l4), some (.int (l5 + Int32.ofInt (1)))]) dX12_joint__87 rfl rfl (by decide) rfl ?_
      refine st_goto (pc := 90) (tgt := 66) dX12_joint__90 (by decide) ?_
      exact ih _ _ _ _ _ _ _ hq
def D_X12_joint_ (N : Nat) (h : mh_H) (l0 : Nat) (l1 : Int32) (l2 : Int32) (l3 : Int32) : Option (Int32 × mh_H) :=
  (D_X12_in N h l1.toInt64 (0 : Int64) (3 : Int64)).bind fun q1 =>
  if q1.1 = 0 then (D_X12_joint__36 N q1.2 l0)
  else ((D_X12_in N q1.2 l2.toInt64 (0 : Int64) (99 : Int64)).bind fun q2 =>
  if q2.1 = 0 then (D_X12_joint__36 N q2.2 l0)
  else ((D_X12_in N q2.2 l3.toInt64 (0 : Int64) (99 : Int64)).bind fun q3 =>
  if q3.1 = 0 then (D_X12_joint__36 N q3.2 l0)
  else ((gR q3.2 12 l0 0).bind fun v4 =>
  (aI q3.2 v4 (1 : Int32)).bind fun v5 =>
  if v5 = (16 : Int32) then (kO q3.2 12 l0 <|
  (D_X12_error N q3.2 l0 (4 : Int32)).bind fun q6 =>
  some (q6.1, q6.2))
  else (D_X12_joint__66 N N q3.2 l0 l1 l2 l3 v5 (0 : Int32)))))
set_option maxHeartbeats 4000000 in
set_option maxRecDepth 100000 in
theorem T_X12_joint_ {P : mh_E → Prop} {N d : Nat} (hd : 2 ≤ d) {z : (Int32 × mh_H)} {h : mh_H} {l0 : Nat} {l1 : Int32} {l2 : Int32} {l3 : Int32} (hq : D_X12_joint_ N h l0 l1 l2 l3 = some z) : mh_go P d mX12_joint_ 0 [some (.ref l0), some (.int l1), some (.int l2), some (.int l3), none, none] [] h (some (.int z.1)) z.2 := by
  unfold D_X12_joint_ at hq
  refine st_iload_n (pc := 0) dX12_joint__0 rfl ?_
  refine st_i2l (pc := 1) dX12_joint__1 ?_
  refine st_lconst (pc := 2) (v := 0) dX12_joint__2 rfl ?_
  refine st_ldc2 (pc := 3) (v := (3 : Int64)) dX12_joint__3 wd_1269 ?_
  obtain ⟨q1, e1, hq⟩ := mh_ob hq
  refine st_invS (pc := 6) (Y := mX12_in) (vs := [.long l1.toInt64, .long (0 : Int64), .long (3 : Int64)]) (rest := []) (st2 := [.int q1.1]) dX12_joint__6 okX12_in wd_1270 wd_1271 pdX12_in rfl rfl rfl rfl (Nat.le_trans (by decide) hd) (Nat.le_of_ble_eq_true rfl) (T_X12_in (Nat.le_refl _) e1) rfl ?_
  refine bd_if_eq (pc := 9) (tgt := 36) hq dX12_joint__9 (by decide) (fun _ hq => ?_) (fun _ hq => ?_)
  ·
    refine st_lesS (lv' := [some (.ref l0), none, none, none, none, none]) ⟨Or.inr rfl, Or.inl rfl, Or.inl rfl, Or.inl rfl, Or.inr rfl, Or.inr rfl, trivial⟩ ?_
    exact T_X12_joint__36 hd hq
  ·
    refine st_iload_n (pc := 12) dX12_joint__12 rfl ?_
    refine st_i2l (pc := 13) dX12_joint__13 ?_
    refine st_lconst (pc := 14) (v := 0) dX12_joint__14 rfl ?_
    refine st_ldc2 (pc := 15) (v := (99 : Int64)) dX12_joint__15 wd_1273 ?_
    obtain ⟨q2, e2, hq⟩ := mh_ob hq
    refine st_invS (pc := 18) (Y := mX12_in) (vs := [.long l2.toInt64, .long (0 : Int64), .long (99 : Int64)]) (rest := []) (st2 := [.int q2.1]) dX12_joint__18 okX12_in wd_1270 wd_1271 pdX12_in rfl rfl rfl rfl (Nat.le_trans (by decide) hd) (Nat.le_of_ble_eq_true rfl) (T_X12_in (Nat.le_refl _) e2) rfl ?_
    refine bd_if_eq (pc := 21) (tgt := 36) hq dX12_joint__21 (by decide) (fun _ hq => ?_) (fun _ hq => ?_)
    ·
      refine st_lesS (lv' := [some (.ref l0), none, none, none, none, none]) ⟨Or.inr rfl, Or.inl rfl, Or.inl rfl, Or.inl rfl, Or.inr rfl, Or.inr rfl, trivial⟩ ?_
      exact T_X12_joint__36 hd hq
    ·
      refine st_iload_n (pc := 24) dX12_joint__24 rfl ?_
      refine st_i2l (pc := 25) dX12_joint__25 ?_
      refine st_lconst (pc := 26) (v := 0) dX12_joint__26 rfl ?_
      refine st_ldc2 (pc := 27) (v := (99 : Int64)) dX12_joint__27 wd_1273 ?_
      obtain ⟨q3, e3, hq⟩ := mh_ob hq
      refine st_invS (pc := 30) (Y := mX12_in) (vs := [.long l3.toInt64, .long (0 : Int64), .long (99 : Int64)]) (rest := []) (st2 := [.int q3.1]) dX12_joint__30 okX12_in wd_1270 wd_1271 pdX12_in rfl rfl rfl rfl (Nat.le_trans (by decide) hd) (Nat.le_of_ble_eq_true rfl) (T_X12_in (Nat.le_refl _) e3) rfl ?_
      refine bd_if_ne (pc := 33) (tgt := 42) hq dX12_joint__33 (by decide) (fun _ hq => ?_) (fun _ hq => ?_)
      ·
        refine st_lesS (lv' := [some (.ref l0), none, none, none, none, none]) ⟨Or.inr rfl, Or.inl rfl, Or.inl rfl, Or.inl rfl, Or.inr rfl, Or.inr rfl, trivial⟩ ?_
        exact T_X12_joint__36 hd hq
      ·
        refine st_aload_n (pc := 42) dX12_joint__42 rfl ?_
        refine bd_getr (pc := 43) hq dX12_joint__43 fl_12_9_12 rfl (fun v4 hq => ?_)
        refine st_iconst (pc := 46) (v := (1 : Int32)) dX12_joint__46 rfl ?_
        refine bd_iald (pc := 47) hq dX12_joint__47 (fun v5 hq => ?_)
        refine st_istore (pc := 48) (lv' := [some (.ref l0), some (.int l1), some (.int l2), some (.int l3), some (.int v5), none]) dX12_joint__48 rfl (by decide) rfl ?_
        refine st_iload (pc := 50) dX12_joint__50 rfl ?_
        refine st_bipush (pc := 52) (v := (16 : Int32)) dX12_joint__52 (by decide) ?_
        refine bd_icmp_ne (pc := 54) (tgt := 63) hq dX12_joint__54 (by decide) (fun _ hq => ?_) (fun _ hq => ?_)
        ·
          refine st_aload_n (pc := 57) dX12_joint__57 rfl ?_
          refine st_iconst (pc := 58) (v := (4 : Int32)) dX12_joint__58 rfl ?_
          obtain ⟨⟨hbq6, hkq6⟩, hq⟩ := mh_oi hq
          obtain ⟨q6, e6, hq⟩ := mh_ob hq
          refine st_invV (pc := 59) (ci := 12) (vs := [.int (4 : Int32)]) (rest := []) (st2 := [.int q6.1]) dX12_joint__59 okX12_error (by decide) hkq6 hbq6 wd_1274 wd_1276 wp_37 pdX12_error rfl rfl rfl rfl (Nat.le_trans (by decide) hd) (Nat.le_of_ble_eq_true rfl) (T_X12_error (Nat.le_refl _) e6) rfl ?_
          exact bd_iret (pc := 62) hq dX12_joint__62 rfl
        ·
          refine st_iconst (pc := 63) (v := (0 : Int32)) dX12_joint__63 rfl ?_
          refine st_istore (pc := 64) (lv' := [some (.ref l0), some (.int l1), some (.int l2), some (.int l3), some (.int v5), some (.int (0 : Int32))]) dX12_joint__64 rfl (by decide) rfl ?_
          exact T_X12_joint__66 hd N _ _ _ _ _ _ _ hq
-- HoleWaterModel.jointIs(II)I
theorem dX12_jointIs_34 : decode cX12_jointIs 34 = .ok (.aload_n 0, 1) := by decide +kernel
theorem dX12_jointIs_35 : decode cX12_jointIs 35 = .ok (.iconst 1, 1) := by decide +kernel
theorem dX12_jointIs_36 : decode cX12_jointIs 36 = .ok (.invokevirtual 80, 3) := by decide +kernel
theorem dX12_jointIs_39 : decode cX12_jointIs 39 = .ok (.ireturn, 1) := by decide +kernel
theorem dX12_jointIs_0 : decode cX12_jointIs 0 = .ok (.aload_n 0, 1) := by decide +kernel
theorem dX12_jointIs_1 : decode cX12_jointIs 1 = .ok (.iload_n 1, 1) := by decide +kernel
theorem dX12_jointIs_2 : decode cX12_jointIs 2 = .ok (.invokevirtual 83, 3) := by decide +kernel
theorem dX12_jointIs_5 : decode cX12_jointIs 5 = .ok (.ifCond .eq 29, 3) := by decide +kernel
theorem dX12_jointIs_8 : decode cX12_jointIs 8 = .ok (.iload_n 2, 1) := by decide +kernel
theorem dX12_jointIs_9 : decode cX12_jointIs 9 = .ok (.i2l, 1) := by decide +kernel
theorem dX12_jointIs_10 : decode cX12_jointIs 10 = .ok (.lconst 0, 1) := by decide +kernel
theorem dX12_jointIs_11 : decode cX12_jointIs 11 = .ok (.ldc2_w 87, 3) := by decide +kernel
theorem dX12_jointIs_14 : decode cX12_jointIs 14 = .ok (.invokestatic 65, 3) := by decide +kernel
theorem dX12_jointIs_17 : decode cX12_jointIs 17 = .ok (.ifCond .eq 17, 3) := by decide +kernel
theorem dX12_jointIs_20 : decode cX12_jointIs 20 = .ok (.aload_n 0, 1) := by decide +kernel
theorem dX12_jointIs_21 : decode cX12_jointIs 21 = .ok (.getfield 9, 3) := by decide +kernel
theorem dX12_jointIs_24 : decode cX12_jointIs 24 = .ok (.iload_n 1, 1) := by decide +kernel
theorem dX12_jointIs_25 : decode cX12_jointIs 25 = .ok (.invokestatic 71, 3) := by decide +kernel
theorem dX12_jointIs_28 : decode cX12_jointIs 28 = .ok (.iload_n 2, 1) := by decide +kernel
theorem dX12_jointIs_29 : decode cX12_jointIs 29 = .ok (.iadd, 1) := by decide +kernel
theorem dX12_jointIs_30 : decode cX12_jointIs 30 = .ok (.iaload, 1) := by decide +kernel
theorem dX12_jointIs_31 : decode cX12_jointIs 31 = .ok (.goto 8, 3) := by decide +kernel
def D_X12_jointIs_34 (N : Nat) (h : mh_H) (l0 : Nat) : Option (Int32 × mh_H) :=
  kO h 12 l0 <|
  (D_X12_error N h l0 (1 : Int32)).bind fun q1 =>
  some (q1.1, q1.2)
set_option maxHeartbeats 4000000 in
set_option maxRecDepth 100000 in
theorem T_X12_jointIs_34 {P : mh_E → Prop} {N d : Nat} (hd : 3 ≤ d) {z : (Int32 × mh_H)} {h : mh_H} {l0 : Nat} (hq : D_X12_jointIs_34 N h l0 = some z) : mh_go P d mX12_jointIs 34 [some (.ref l0), none, none] [] h (some (.int z.1)) z.2 := by
  unfold D_X12_jointIs_34 at hq
  refine st_aload_n (pc := 34) dX12_jointIs_34 rfl ?_
  refine st_iconst (pc := 35) (v := (1 : Int32)) dX12_jointIs_35 rfl ?_
  obtain ⟨⟨hbq1, hkq1⟩, hq⟩ := mh_oi hq
  obtain ⟨q1, e1, hq⟩ := mh_ob hq
  refine st_invV (pc := 36) (ci := 12) (vs := [.int (1 : Int32)]) (rest := []) (st2 := [.int q1.1]) dX12_jointIs_36 okX12_error (by decide) hkq1 hbq1 wd_1274 wd_1276 wp_37 pdX12_error rfl rfl rfl rfl (Nat.le_trans (by decide) hd) (Nat.le_of_ble_eq_true rfl) (T_X12_error (Nat.le_refl _) e1) rfl ?_
  exact bd_iret (pc := 39) hq dX12_jointIs_39 rfl
def D_X12_jointIs (N : Nat) (h : mh_H) (l0 : Nat) (l1 : Int32) (l2 : Int32) : Option (Int32 × mh_H) :=
  kO h 12 l0 <|
  (D_X12_isJoint N h l0 l1).bind fun q1 =>
  if q1.1 = 0 then (D_X12_jointIs_34 N q1.2 l0)
  else ((D_X12_in N q1.2 l2.toInt64 (0 : Int64) (6 : Int64)).bind fun q2 =>
  if q2.1 = 0 then (D_X12_jointIs_34 N q2.2 l0)
  else ((gR q2.2 12 l0 0).bind fun v3 =>
  (D_X12_joint N q2.2 l1).bind fun q4 =>
  (aI q4.2 v3 (q4.1 + l2)).bind fun v5 =>
  some (v5, q4.2)))
set_option maxHeartbeats 4000000 in
set_option maxRecDepth 100000 in
theorem T_X12_jointIs {P : mh_E → Prop} {N d : Nat} (hd : 3 ≤ d) {z : (Int32 × mh_H)} {h : mh_H} {l0 : Nat} {l1 : Int32} {l2 : Int32} (hq : D_X12_jointIs N h l0 l1 l2 = some z) : mh_go P d mX12_jointIs 0 [some (.ref l0), some (.int l1), some (.int l2)] [] h (some (.int z.1)) z.2 := by
  unfold D_X12_jointIs at hq
  refine st_aload_n (pc := 0) dX12_jointIs_0 rfl ?_
  refine st_iload_n (pc := 1) dX12_jointIs_1 rfl ?_
  obtain ⟨⟨hbq1, hkq1⟩, hq⟩ := mh_oi hq
  obtain ⟨q1, e1, hq⟩ := mh_ob hq
  refine st_invV (pc := 2) (ci := 12) (vs := [.int l1]) (rest := []) (st2 := [.int q1.1]) dX12_jointIs_2 okX12_isJoint (by decide) hkq1 hbq1 wd_1286 wd_1288 wp_38 pdX12_isJoint rfl rfl rfl rfl (Nat.le_trans (by decide) hd) (Nat.le_of_ble_eq_true rfl) (T_X12_isJoint (Nat.le_refl _) e1) rfl ?_
  refine bd_if_eq (pc := 5) (tgt := 34) hq dX12_jointIs_5 (by decide) (fun _ hq => ?_) (fun _ hq => ?_)
  ·
    refine st_lesS (lv' := [some (.ref l0), none, none]) ⟨Or.inr rfl, Or.inl rfl, Or.inl rfl, trivial⟩ ?_
    exact T_X12_jointIs_34 hd hq
  ·
    refine st_iload_n (pc := 8) dX12_jointIs_8 rfl ?_
    refine st_i2l (pc := 9) dX12_jointIs_9 ?_
    refine st_lconst (pc := 10) (v := 0) dX12_jointIs_10 rfl ?_
    refine st_ldc2 (pc := 11) (v := (6 : Int64)) dX12_jointIs_11 wd_1290 ?_
    obtain ⟨q2, e2, hq⟩ := mh_ob hq
    refine st_invS (pc := 14) (Y := mX12_in) (vs := [.long l2.toInt64, .long (0 : Int64), .long (6 : Int64)]) (rest := []) (st2 := [.int q2.1]) dX12_jointIs_14 okX12_in wd_1270 wd_1271 pdX12_in rfl rfl rfl rfl (Nat.le_trans (by decide) hd) (Nat.le_of_ble_eq_true rfl) (T_X12_in (Nat.le_refl _) e2) rfl ?_
    refine bd_if_eq (pc := 17) (tgt := 34) hq dX12_jointIs_17 (by decide) (fun _ hq => ?_) (fun _ hq => ?_)
    ·
      refine st_lesS (lv' := [some (.ref l0), none, none]) ⟨Or.inr rfl, Or.inl rfl, Or.inl rfl, trivial⟩ ?_
      exact T_X12_jointIs_34 hd hq
    ·
      refine st_aload_n (pc := 20) dX12_jointIs_20 rfl ?_
      refine bd_getr (pc := 21) hq dX12_jointIs_21 fl_12_9_12 rfl (fun v3 hq => ?_)
      refine st_iload_n (pc := 24) dX12_jointIs_24 rfl ?_
      obtain ⟨q4, e4, hq⟩ := mh_ob hq
      refine st_invS (pc := 25) (Y := mX12_joint) (vs := [.int l1]) (rest := [.ref v3]) (st2 := [.int q4.1, .ref v3]) dX12_jointIs_25 okX12_joint wd_1279 wd_1280 pdX12_joint rfl rfl rfl rfl (Nat.le_trans (by decide) hd) (Nat.le_of_ble_eq_true rfl) (T_X12_joint (Nat.le_refl _) e4) rfl ?_
      refine st_iload_n (pc := 28) dX12_jointIs_28 rfl ?_
      refine st_iadd (pc := 29) dX12_jointIs_29 ?_
      refine bd_iald (pc := 30) hq dX12_jointIs_30 (fun v5 hq => ?_)
      refine st_goto (pc := 31) (tgt := 39) dX12_jointIs_31 (by decide) ?_
      exact bd_iret (pc := 39) hq dX12_jointIs_39 rfl
