-- HoleWater$Looks.latestVain(IIII)I
theorem dX1_latestVain_57 : decode cX1_latestVain 57 = .ok (.iinc 6 1, 3) := by decide +kernel
theorem dX1_latestVain_60 : decode cX1_latestVain 60 = .ok (.goto (-54), 3) := by decide +kernel
theorem dX1_latestVain_6 : decode cX1_latestVain 6 = .ok (.iload 6, 2) := by decide +kernel
theorem dX1_latestVain_8 : decode cX1_latestVain 8 = .ok (.aload_n 0, 1) := by decide +kernel
theorem dX1_latestVain_9 : decode cX1_latestVain 9 = .ok (.getfield 15, 3) := by decide +kernel
theorem dX1_latestVain_12 : decode cX1_latestVain 12 = .ok (.if_icmp .ge 51, 3) := by decide +kernel
theorem dX1_latestVain_63 : decode cX1_latestVain 63 = .ok (.iload 5, 2) := by decide +kernel
theorem dX1_latestVain_65 : decode cX1_latestVain 65 = .ok (.ireturn, 1) := by decide +kernel
theorem dX1_latestVain_15 : decode cX1_latestVain 15 = .ok (.iload 6, 2) := by decide +kernel
theorem dX1_latestVain_17 : decode cX1_latestVain 17 = .ok (.iload 4, 2) := by decide +kernel
theorem dX1_latestVain_19 : decode cX1_latestVain 19 = .ok (.if_icmp .ge 44, 3) := by decide +kernel
theorem dX1_latestVain_22 : decode cX1_latestVain 22 = .ok (.aload_n 0, 1) := by decide +kernel
theorem dX1_latestVain_23 : decode cX1_latestVain 23 = .ok (.iload 6, 2) := by decide +kernel
theorem dX1_latestVain_25 : decode cX1_latestVain 25 = .ok (.iload_n 2, 1) := by decide +kernel
theorem dX1_latestVain_26 : decode cX1_latestVain 26 = .ok (.iload_n 1, 1) := by decide +kernel
theorem dX1_latestVain_27 : decode cX1_latestVain 27 = .ok (.invokevirtual 66, 3) := by decide +kernel
theorem dX1_latestVain_30 : decode cX1_latestVain 30 = .ok (.ifCond .eq 27, 3) := by decide +kernel
theorem dX1_latestVain_33 : decode cX1_latestVain 33 = .ok (.aload_n 0, 1) := by decide +kernel
theorem dX1_latestVain_34 : decode cX1_latestVain 34 = .ok (.iload 6, 2) := by decide +kernel
theorem dX1_latestVain_36 : decode cX1_latestVain 36 = .ok (.iconst 1, 1) := by decide +kernel
theorem dX1_latestVain_37 : decode cX1_latestVain 37 = .ok (.invokevirtual 60, 3) := by decide +kernel
theorem dX1_latestVain_40 : decode cX1_latestVain 40 = .ok (.iload_n 3, 1) := by decide +kernel
theorem dX1_latestVain_41 : decode cX1_latestVain 41 = .ok (.if_icmp .ne 16, 3) := by decide +kernel
theorem dX1_latestVain_44 : decode cX1_latestVain 44 = .ok (.aload_n 0, 1) := by decide +kernel
theorem dX1_latestVain_45 : decode cX1_latestVain 45 = .ok (.iload 6, 2) := by decide +kernel
theorem dX1_latestVain_47 : decode cX1_latestVain 47 = .ok (.invokevirtual 70, 3) := by decide +kernel
theorem dX1_latestVain_50 : decode cX1_latestVain 50 = .ok (.ifCond .ne 7, 3) := by decide +kernel
theorem dX1_latestVain_53 : decode cX1_latestVain 53 = .ok (.iload 6, 2) := by decide +kernel
theorem dX1_latestVain_55 : decode cX1_latestVain 55 = .ok (.istore 5, 2) := by decide +kernel
theorem dX1_latestVain_0 : decode cX1_latestVain 0 = .ok (.iconst (-1), 1) := by decide +kernel
theorem dX1_latestVain_1 : decode cX1_latestVain 1 = .ok (.istore 5, 2) := by decide +kernel
theorem dX1_latestVain_3 : decode cX1_latestVain 3 = .ok (.iconst 0, 1) := by decide +kernel
theorem dX1_latestVain_4 : decode cX1_latestVain 4 = .ok (.istore 6, 2) := by decide +kernel
def D_X1_latestVain_57 (N : Nat) (k6 : mh_H → Nat → Int32 → Int32 → Int32 → Int32 → Int32 → Int32 → Option (Int32 × mh_H)) (h : mh_H) (l0 : Nat) (l1 : Int32) (l2 : Int32) (l3 : Int32) (l4 : Int32) (l5 : Int32) (l6 : Int32) : Option (Int32 × mh_H) :=
  k6 h l0 l1 l2 l3 l4 l5 (l6 + Int32.ofInt (1))
set_option maxHeartbeats 4000000 in
set_option maxRecDepth 100000 in
theorem T_X1_latestVain_57 {P : mh_E → Prop} {N d : Nat} (hd : 3 ≤ d) {z : (Int32 × mh_H)} {k6 : mh_H → Nat → Int32 → Int32 → Int32 → Int32 → Int32 → Int32 → Option (Int32 × mh_H)} (hk6 : ∀ (h : mh_H) (l0 : Nat) (l1 : Int32) (l2 : Int32) (l3 : Int32) (l4 : Int32) (l5 : Int32) (l6 : Int32), k6 h l0 l1 l2 l3 l4 l5 l6 = some z → mh_go P d mX1_latestVain 6 [some (.ref l0), some (.int l1), some (.int l2), some (.int l3), some (.int l4), some (.int l5), some (.int l6)] [] h (some (.int z.1)) z.2) {h : mh_H} {l0 : Nat} {l1 : Int32} {l2 : Int32} {l3 : Int32} {l4 : Int32} {l5 : Int32} {l6 : Int32} (hq : D_X1_latestVain_57 N k6 h l0 l1 l2 l3 l4 l5 l6 = some z) : mh_go P d mX1_latestVain 57 [some (.ref l0), some (.int l1), some (.int l2), some (.int l3), some (.int l4), some (.int l5), some (.int l6)] [] h (some (.int z.1)) z.2 := by
  unfold D_X1_latestVain_57 at hq
  refine st_iinc (pc := 57) (lv' := [some (.ref l0), some (.int l1), some (.int l2), some (.int l3), some (.int l4), some (.int l5), some (.int (l6 + Int32.ofInt (1)))]) dX1_latestVain_57 rfl rfl (by decide) rfl ?_
  refine st_goto (pc := 60) (tgt := 6) dX1_latestVain_60 (by decide) ?_
  exact hk6 _ _ _ _ _ _ _ _ hq
def D_X1_latestVain_6 (N : Nat) : Nat → mh_H → Nat → Int32 → Int32 → Int32 → Int32 → Int32 → Int32 → Option (Int32 × mh_H)
  | 0, _, _, _, _, _, _, _, _ => none
  | F + 1, h, l0, l1, l2, l3, l4, l5, l6 =>
    (gI h 1 l0 1).bind fun v1 =>
    if v1 ≤ l6 then (some (l5, h))
    else (if l4 ≤ l6 then (some (l5, h))
    else (kO h 1 l0 <|
    (D_X1_isAbout N h l0 l6 l2 l1).bind fun q2 =>
    if q2.1 = 0 then (D_X1_latestVain_57 N (D_X1_latestVain_6 N F) q2.2 l0 l1 l2 l3 l4 l5 l6)
    else (kO q2.2 1 l0 <|
    (D_X1_lookPart N q2.2 l0 l6 (1 : Int32)).bind fun q3 =>
    if q3.1 = l3 then (kO q3.2 1 l0 <|
    (D_X1_saw N q3.2 l0 l6).bind fun q4 =>
    if q4.1 = 0 then (D_X1_latestVain_57 N (D_X1_latestVain_6 N F) q4.2 l0 l1 l2 l3 l4 l6 l6)
    else (D_X1_latestVain_57 N (D_X1_latestVain_6 N F) q4.2 l0 l1 l2 l3 l4 l5 l6))
    else (D_X1_latestVain_57 N (D_X1_latestVain_6 N F) q3.2 l0 l1 l2 l3 l4 l5 l6))))
set_option maxHeartbeats 4000000 in
set_option maxRecDepth 100000 in
theorem T_X1_latestVain_6 {P : mh_E → Prop} {N d : Nat} (hd : 3 ≤ d) {z : (Int32 × mh_H)} : ∀ (F : Nat) (h : mh_H) (l0 : Nat) (l1 : Int32) (l2 : Int32) (l3 : Int32) (l4 : Int32) (l5 : Int32) (l6 : Int32), D_X1_latestVain_6 N F h l0 l1 l2 l3 l4 l5 l6 = some z → mh_go P d mX1_latestVain 6 [some (.ref l0), some (.int l1), some (.int l2), some (.int l3), some (.int l4), some (.int l5), some (.int l6)] [] h (some (.int z.1)) z.2 := by
  intro F
  induction F with
  | zero => intro h l0 l1 l2 l3 l4 l5 l6 hq; rw [D_X1_latestVain_6] at hq; cases hq
  | succ F ih =>
    intro h l0 l1 l2 l3 l4 l5 l6 hq
    rw [D_X1_latestVain_6] at hq
    refine st_iload (pc := 6) dX1_latestVain_6 rfl ?_
    refine st_aload_n (pc := 8) dX1_latestVain_8 rfl ?_
    refine bd_geti (pc := 9) hq dX1_latestVain_9 fl_1_15_1 rfl (fun v1 hq => ?_)
    refine bd_icmp_ge (pc := 12) (tgt := 63) hq dX1_latestVain_12 (by decide) (fun _ hq => ?_) (fun _ hq => ?_)
    ·
      refine st_iload (pc := 63) dX1_latestVain_63 rfl ?_
      exact bd_iret (pc := 65) hq dX1_latestVain_65 rfl
    ·
      refine st_iload (pc := 15) dX1_latestVain_15 rfl ?_
      refine st_iload (pc := 17) dX1_latestVain_17 rfl ?_
      refine bd_icmp_ge (pc := 19) (tgt := 63) hq dX1_latestVain_19 (by decide) (fun _ hq => ?_) (fun _ hq => ?_)
      ·
        refine st_iload (pc := 63) dX1_latestVain_63 rfl ?_
        exact bd_iret (pc := 65) hq dX1_latestVain_65 rfl
      ·
        refine st_aload_n (pc := 22) dX1_latestVain_22 rfl ?_
        refine st_iload (pc := 23) dX1_latestVain_23 rfl ?_
        refine st_iload_n (pc := 25) dX1_latestVain_25 rfl ?_
        refine st_iload_n (pc := 26) dX1_latestVain_26 rfl ?_
        obtain ⟨⟨hbq2, hkq2⟩, hq⟩ := mh_oi hq
        obtain ⟨q2, e2, hq⟩ := mh_ob hq
        refine st_invV (pc := 27) (ci := 1) (vs := [.int l6, .int l2, .int l1]) (rest := []) (st2 := [.int q2.1]) dX1_latestVain_27 okX1_isAbout (by decide) hkq2 hbq2 wd_887 wd_889 wp_26 pdX1_isAbout rfl rfl rfl rfl (Nat.le_trans (by decide) hd) (Nat.le_of_ble_eq_true rfl) (T_X1_isAbout (Nat.le_refl _) e2) rfl ?_
        refine bd_if_eq (pc := 30) (tgt := 57) hq dX1_latestVain_30 (by decide) (fun _ hq => ?_) (fun _ hq => ?_)
        ·
          exact T_X1_latestVain_57 hd ih hq
        ·
          refine st_aload_n (pc := 33) dX1_latestVain_33 rfl ?_
          refine st_iload (pc := 34) dX1_latestVain_34 rfl ?_
          refine st_iconst (pc := 36) (v := (1 : Int32)) dX1_latestVain_36 rfl ?_
          obtain ⟨⟨hbq3, hkq3⟩, hq⟩ := mh_oi hq
          obtain ⟨q3, e3, hq⟩ := mh_ob hq
          refine st_invV (pc := 37) (ci := 1) (vs := [.int l6, .int (1 : Int32)]) (rest := []) (st2 := [.int q3.1]) dX1_latestVain_37 okX1_lookPart (by decide) hkq3 hbq3 wd_883 wd_884 wd_885 pdX1_lookPart rfl rfl rfl rfl (Nat.le_trans (by decide) hd) (Nat.le_of_ble_eq_true rfl) (T_X1_lookPart (Nat.le_refl _) e3) rfl ?_
          refine st_iload_n (pc := 40) dX1_latestVain_40 rfl ?_
          refine bd_icmp_ne (pc := 41) (tgt := 57) hq dX1_latestVain_41 (by decide) (fun _ hq => ?_) (fun _ hq => ?_)
          ·
            refine st_aload_n (pc := 44) dX1_latestVain_44 rfl ?_
            refine st_iload (pc := 45) dX1_latestVain_45 rfl ?_
            obtain ⟨⟨hbq4, hkq4⟩, hq⟩ := mh_oi hq
            obtain ⟨q4, e4, hq⟩ := mh_ob hq
            refine st_invV (pc := 47) (ci := 1) (vs := [.int l6]) (rest := []) (st2 := [.int q4.1]) dX1_latestVain_47 okX1_saw (by decide) hkq4 hbq4 wd_892 wd_894 wp_27 pdX1_saw rfl rfl rfl rfl (Nat.le_trans (by decide) hd) (Nat.le_of_ble_eq_true rfl) (T_X1_saw (Nat.le_refl _) e4) rfl ?_
            refine bd_if_ne (pc := 50) (tgt := 57) hq dX1_latestVain_50 (by decide) (fun _ hq => ?_) (fun _ hq => ?_)
            ·
              refine st_iload (pc := 53) dX1_latestVain_53 rfl ?_
              refine st_istore (pc := 55) (lv' := [some (.ref l0), some (.int l1), some (.int l2), some (.int l3), some (.int l4), some (.int l6), some (.int l6)]) dX1_latestVain_55 rfl (by decide) rfl ?_
              exact T_X1_latestVain_57 hd ih hq
            ·
              exact T_X1_latestVain_57 hd ih hq
          ·
            exact T_X1_latestVain_57 hd ih hq
def D_X1_latestVain (N : Nat) (h : mh_H) (l0 : Nat) (l1 : Int32) (l2 : Int32) (l3 : Int32) (l4 : Int32) : Option (Int32 × mh_H) :=
  D_X1_latestVain_6 N N h l0 l1 l2 l3 l4 (-1 : Int32) (0 : Int32)
set_option maxHeartbeats 4000000 in
set_option maxRecDepth 100000 in
theorem T_X1_latestVain {P : mh_E → Prop} {N d : Nat} (hd : 3 ≤ d) {z : (Int32 × mh_H)} {h : mh_H} {l0 : Nat} {l1 : Int32} {l2 : Int32} {l3 : Int32} {l4 : Int32} (hq : D_X1_latestVain N h l0 l1 l2 l3 l4 = some z) : mh_go P d mX1_latestVain 0 [some (.ref l0), some (.int l1), some (.int l2), some (.int l3), some (.int l4), none, none] [] h (some (.int z.1)) z.2 := by
  unfold D_X1_latestVain at hq
  refine st_iconst (pc := 0) (v := (-1 : Int32)) dX1_latestVain_0 rfl ?_
  refine st_istore (pc := 1) (lv' := [some (.ref l0), some (.int l1), some (.int l2), some (.int l3), some (.int l4), some (.int (-1 : Int32)), none]) dX1_latestVain_1 rfl (by decide) rfl ?_
  refine st_iconst (pc := 3) (v := (0 : Int32)) dX1_latestVain_3 rfl ?_
  refine st_istore (pc := 4) (lv' := [some (.ref l0), some (.int l1), some (.int l2), some (.int l3), some (.int l4), some (.int (-1 : Int32)), some (.int (0 : Int32))]) dX1_latestVain_4 rfl (by decide) rfl ?_
  exact T_X1_latestVain_6 hd N _ _ _ _ _ _ _ _ hq
-- HoleWater$Looks.onlyPut(I)I
theorem dX1_onlyPut_30 : decode cX1_onlyPut 30 = .ok (.iinc 3 1, 3) := by decide +kernel
theorem dX1_onlyPut_33 : decode cX1_onlyPut 33 = .ok (.goto (-29), 3) := by decide +kernel
theorem dX1_onlyPut_4 : decode cX1_onlyPut 4 = .ok (.iload_n 3, 1) := by decide +kernel
theorem dX1_onlyPut_5 : decode cX1_onlyPut 5 = .ok (.aload_n 0, 1) := by decide +kernel
theorem dX1_onlyPut_6 : decode cX1_onlyPut 6 = .ok (.getfield 9, 3) := by decide +kernel
theorem dX1_onlyPut_9 : decode cX1_onlyPut 9 = .ok (.if_icmp .ge 27, 3) := by decide +kernel
theorem dX1_onlyPut_36 : decode cX1_onlyPut 36 = .ok (.iload_n 2, 1) := by decide +kernel
theorem dX1_onlyPut_37 : decode cX1_onlyPut 37 = .ok (.ireturn, 1) := by decide +kernel
theorem dX1_onlyPut_12 : decode cX1_onlyPut 12 = .ok (.aload_n 0, 1) := by decide +kernel
theorem dX1_onlyPut_13 : decode cX1_onlyPut 13 = .ok (.iload_n 3, 1) := by decide +kernel
theorem dX1_onlyPut_14 : decode cX1_onlyPut 14 = .ok (.iconst 1, 1) := by decide +kernel
theorem dX1_onlyPut_15 : decode cX1_onlyPut 15 = .ok (.invokevirtual 56, 3) := by decide +kernel
theorem dX1_onlyPut_18 : decode cX1_onlyPut 18 = .ok (.iload_n 1, 1) := by decide +kernel
theorem dX1_onlyPut_19 : decode cX1_onlyPut 19 = .ok (.if_icmp .ne 11, 3) := by decide +kernel
theorem dX1_onlyPut_22 : decode cX1_onlyPut 22 = .ok (.iload_n 2, 1) := by decide +kernel
theorem dX1_onlyPut_23 : decode cX1_onlyPut 23 = .ok (.ifCond .lt 5, 3) := by decide +kernel
theorem dX1_onlyPut_28 : decode cX1_onlyPut 28 = .ok (.iload_n 3, 1) := by decide +kernel
theorem dX1_onlyPut_29 : decode cX1_onlyPut 29 = .ok (.istore_n 2, 1) := by decide +kernel
theorem dX1_onlyPut_26 : decode cX1_onlyPut 26 = .ok (.iconst (-1), 1) := by decide +kernel
theorem dX1_onlyPut_27 : decode cX1_onlyPut 27 = .ok (.ireturn, 1) := by decide +kernel
theorem dX1_onlyPut_0 : decode cX1_onlyPut 0 = .ok (.iconst (-1), 1) := by decide +kernel
theorem dX1_onlyPut_1 : decode cX1_onlyPut 1 = .ok (.istore_n 2, 1) := by decide +kernel
theorem dX1_onlyPut_2 : decode cX1_onlyPut 2 = .ok (.iconst 0, 1) := by decide +kernel
theorem dX1_onlyPut_3 : decode cX1_onlyPut 3 = .ok (.istore_n 3, 1) := by decide +kernel
def D_X1_onlyPut_30 (N : Nat) (k4 : mh_H → Nat → Int32 → Int32 → Int32 → Option (Int32 × mh_H)) (h : mh_H) (l0 : Nat) (l1 : Int32) (l2 : Int32) (l3 : Int32) : Option (Int32 × mh_H) :=
  k4 h l0 l1 l2 (l3 + Int32.ofInt (1))
set_option maxHeartbeats 4000000 in
set_option maxRecDepth 100000 in
theorem T_X1_onlyPut_30 {P : mh_E → Prop} {N d : Nat} (hd : 2 ≤ d) {z : (Int32 × mh_H)} {k4 : mh_H → Nat → Int32 → Int32 → Int32 → Option (Int32 × mh_H)} (hk4 : ∀ (h : mh_H) (l0 : Nat) (l1 : Int32) (l2 : Int32) (l3 : Int32), k4 h l0 l1 l2 l3 = some z → mh_go P d mX1_onlyPut 4 [some (.ref l0), some (.int l1), some (.int l2), some (.int l3)] [] h (some (.int z.1)) z.2) {h : mh_H} {l0 : Nat} {l1 : Int32} {l2 : Int32} {l3 : Int32} (hq : D_X1_onlyPut_30 N k4 h l0 l1 l2 l3 = some z) : mh_go P d mX1_onlyPut 30 [some (.ref l0), some (.int l1), some (.int l2), some (.int l3)] [] h (some (.int z.1)) z.2 := by
  unfold D_X1_onlyPut_30 at hq
  refine st_iinc (pc := 30) (lv' := [some (.ref l0), some (.int l1), some (.int l2), some (.int (l3 + Int32.ofInt (1)))]) dX1_onlyPut_30 rfl rfl (by decide) rfl ?_
  refine st_goto (pc := 33) (tgt := 4) dX1_onlyPut_33 (by decide) ?_
  exact hk4 _ _ _ _ _ hq
def D_X1_onlyPut_4 (N : Nat) : Nat → mh_H → Nat → Int32 → Int32 → Int32 → Option (Int32 × mh_H)
  | 0, _, _, _, _, _ => none
  | F + 1, h, l0, l1, l2, l3 =>
    (gI h 1 l0 0).bind fun v1 =>
    if v1 ≤ l3 then (some (l2, h))
    else (kO h 1 l0 <|
    (D_X1_putPart N h l0 l3 (1 : Int32)).bind fun q2 =>
    if q2.1 = l1 then (if l2 < 0 then (D_X1_onlyPut_30 N (D_X1_onlyPut_4 N F) q2.2 l0 l1 l3 l3)
    else (some ((-1 : Int32), q2.2)))
    else (D_X1_onlyPut_30 N (D_X1_onlyPut_4 N F) q2.2 l0 l1 l2 l3))
set_option maxHeartbeats 4000000 in
set_option maxRecDepth 100000 in
theorem T_X1_onlyPut_4 {P : mh_E → Prop} {N d : Nat} (hd : 2 ≤ d) {z : (Int32 × mh_H)} : ∀ (F : Nat) (h : mh_H) (l0 : Nat) (l1 : Int32) (l2 : Int32) (l3 : Int32), D_X1_onlyPut_4 N F h l0 l1 l2 l3 = some z → mh_go P d mX1_onlyPut 4 [some (.ref l0), some (.int l1), some (.int l2), some (.int l3)] [] h (some (.int z.1)) z.2 := by
  intro F
  induction F with
  | zero => intro h l0 l1 l2 l3 hq; rw [D_X1_onlyPut_4] at hq; cases hq
  | succ F ih =>
    intro h l0 l1 l2 l3 hq
    rw [D_X1_onlyPut_4] at hq
    refine st_iload_n (pc := 4) dX1_onlyPut_4 rfl ?_
    refine st_aload_n (pc := 5) dX1_onlyPut_5 rfl ?_
    refine bd_geti (pc := 6) hq dX1_onlyPut_6 fl_1_9_1 rfl (fun v1 hq => ?_)
    refine bd_icmp_ge (pc := 9) (tgt := 36) hq dX1_onlyPut_9 (by decide) (fun _ hq => ?_) (fun _ hq => ?_)
    ·
      refine st_iload_n (pc := 36) dX1_onlyPut_36 rfl ?_
      exact bd_iret (pc := 37) hq dX1_onlyPut_37 rfl
    ·
      refine st_aload_n (pc := 12) dX1_onlyPut_12 rfl ?_
      refine st_iload_n (pc := 13) dX1_onlyPut_13 rfl ?_
      refine st_iconst (pc := 14) (v := (1 : Int32)) dX1_onlyPut_14 rfl ?_
      obtain ⟨⟨hbq2, hkq2⟩, hq⟩ := mh_oi hq
      obtain ⟨q2, e2, hq⟩ := mh_ob hq
      refine st_invV (pc := 15) (ci := 1) (vs := [.int l3, .int (1 : Int32)]) (rest := []) (st2 := [.int q2.1]) dX1_onlyPut_15 okX1_putPart (by decide) hkq2 hbq2 wd_859 wd_860 wd_861 pdX1_putPart rfl rfl rfl rfl (Nat.le_trans (by decide) hd) (Nat.le_of_ble_eq_true rfl) (T_X1_putPart (Nat.le_refl _) e2) rfl ?_
      refine st_iload_n (pc := 18) dX1_onlyPut_18 rfl ?_
      refine bd_icmp_ne (pc := 19) (tgt := 30) hq dX1_onlyPut_19 (by decide) (fun _ hq => ?_) (fun _ hq => ?_)
      ·
        refine st_iload_n (pc := 22) dX1_onlyPut_22 rfl ?_
        refine bd_if_lt (pc := 23) (tgt := 28) hq dX1_onlyPut_23 (by decide) (fun _ hq => ?_) (fun _ hq => ?_)
        ·
          refine st_iload_n (pc := 28) dX1_onlyPut_28 rfl ?_
          refine st_istore_n (pc := 29) (lv' := [some (.ref l0), some (.int l1), some (.int l3), some (.int l3)]) dX1_onlyPut_29 rfl (by decide) rfl ?_
          exact T_X1_onlyPut_30 hd ih hq
        ·
          refine st_iconst (pc := 26) (v := (-1 : Int32)) dX1_onlyPut_26 rfl ?_
          exact bd_iret (pc := 27) hq dX1_onlyPut_27 rfl
      ·
        exact T_X1_onlyPut_30 hd ih hq
def D_X1_onlyPut (N : Nat) (h : mh_H) (l0 : Nat) (l1 : Int32) : Option (Int32 × mh_H) :=
  D_X1_onlyPut_4 N N h l0 l1 (-1 : Int32) (0 : Int32)
set_option maxHeartbeats 4000000 in
set_option maxRecDepth 100000 in
theorem T_X1_onlyPut {P : mh_E → Prop} {N d : Nat} (hd : 2 ≤ d) {z : (Int32 × mh_H)} {h : mh_H} {l0 : Nat} {l1 : Int32} (hq : D_X1_onlyPut N h l0 l1 = some z) : mh_go P d mX1_onlyPut 0 [some (.ref l0), some (.int l1), none, none] [] h (some (.int z.1)) z.2 := by
  unfold D_X1_onlyPut at hq
  refine st_iconst (pc := 0) (v := (-1 : Int32)) dX1_onlyPut_0 rfl ?_
  refine st_istore_n (pc := 1) (lv' := [some (.ref l0), some (.int l1), some (.int (-1 : Int32)), none]) dX1_onlyPut_1 rfl (by decide) rfl ?_
  refine st_iconst (pc := 2) (v := (0 : Int32)) dX1_onlyPut_2 rfl ?_
  refine st_istore_n (pc := 3) (lv' := [some (.ref l0), some (.int l1), some (.int (-1 : Int32)), some (.int (0 : Int32))]) dX1_onlyPut_3 rfl (by decide) rfl ?_
  exact T_X1_onlyPut_4 hd N _ _ _ _ _ hq
-- HoleWater.span(IIII)I
theorem dX11_span_31 : decode cX11_span 31 = .ok (.aload_n 0, 1) := by decide +kernel
theorem dX11_span_32 : decode cX11_span 32 = .ok (.iconst 1, 1) := by decide +kernel
theorem dX11_span_33 : decode cX11_span 33 = .ok (.invokevirtual 66, 3) := by decide +kernel
theorem dX11_span_36 : decode cX11_span 36 = .ok (.ireturn, 1) := by decide +kernel
theorem dX11_span_84 : decode cX11_span 84 = .ok (.aload_n 0, 1) := by decide +kernel
theorem dX11_span_85 : decode cX11_span 85 = .ok (.iconst 3, 1) := by decide +kernel
theorem dX11_span_86 : decode cX11_span 86 = .ok (.invokevirtual 66, 3) := by decide +kernel
theorem dX11_span_89 : decode cX11_span 89 = .ok (.ireturn, 1) := by decide +kernel
theorem dX11_span_141 : decode cX11_span 141 = .ok (.istore 8, 2) := by decide +kernel
theorem dX11_span_143 : decode cX11_span 143 = .ok (.iload 8, 2) := by decide +kernel
theorem dX11_span_145 : decode cX11_span 145 = .ok (.ifCond .ge 7, 3) := by decide +kernel
theorem dX11_span_152 : decode cX11_span 152 = .ok (.aload_n 0, 1) := by decide +kernel
theorem dX11_span_153 : decode cX11_span 153 = .ok (.getfield 12, 3) := by decide +kernel
theorem dX11_span_156 : decode cX11_span 156 = .ok (.getfield 196, 3) := by decide +kernel
theorem dX11_span_159 : decode cX11_span 159 = .ok (.iload 8, 2) := by decide +kernel
theorem dX11_span_161 : decode cX11_span 161 = .ok (.iconst 2, 1) := by decide +kernel
theorem dX11_span_162 : decode cX11_span 162 = .ok (.invokevirtual 302, 3) := by decide +kernel
theorem dX11_span_165 : decode cX11_span 165 = .ok (.aload_n 0, 1) := by decide +kernel
theorem dX11_span_166 : decode cX11_span 166 = .ok (.getfield 12, 3) := by decide +kernel
theorem dX11_span_169 : decode cX11_span 169 = .ok (.getfield 196, 3) := by decide +kernel
theorem dX11_span_172 : decode cX11_span 172 = .ok (.iload 6, 2) := by decide +kernel
theorem dX11_span_174 : decode cX11_span 174 = .ok (.iconst 3, 1) := by decide +kernel
theorem dX11_span_175 : decode cX11_span 175 = .ok (.invokevirtual 292, 3) := by decide +kernel
theorem dX11_span_178 : decode cX11_span 178 = .ok (.isub, 1) := by decide +kernel
theorem dX11_span_179 : decode cX11_span 179 = .ok (.ireturn, 1) := by decide +kernel
theorem dX11_span_148 : decode cX11_span 148 = .ok (.iconst 0, 1) := by decide +kernel
theorem dX11_span_149 : decode cX11_span 149 = .ok (.goto 30, 3) := by decide +kernel
theorem dX11_span_0 : decode cX11_span 0 = .ok (.aload_n 0, 1) := by decide +kernel
theorem dX11_span_1 : decode cX11_span 1 = .ok (.iload_n 1, 1) := by decide +kernel
theorem dX11_span_2 : decode cX11_span 2 = .ok (.iload_n 2, 1) := by decide +kernel
theorem dX11_span_3 : decode cX11_span 3 = .ok (.invokevirtual 280, 3) := by decide +kernel
theorem dX11_span_6 : decode cX11_span 6 = .ok (.istore 5, 2) := by decide +kernel
theorem dX11_span_8 : decode cX11_span 8 = .ok (.iload 5, 2) := by decide +kernel
theorem dX11_span_10 : decode cX11_span 10 = .ok (.iconst 1, 1) := by decide +kernel
theorem dX11_span_11 : decode cX11_span 11 = .ok (.if_icmp .eq 20, 3) := by decide +kernel
theorem dX11_span_14 : decode cX11_span 14 = .ok (.iload_n 3, 1) := by decide +kernel
theorem dX11_span_15 : decode cX11_span 15 = .ok (.invokestatic 183, 3) := by decide +kernel
theorem dX11_span_18 : decode cX11_span 18 = .ok (.ifCond .eq 13, 3) := by decide +kernel
theorem dX11_span_21 : decode cX11_span 21 = .ok (.iload 4, 2) := by decide +kernel
theorem dX11_span_23 : decode cX11_span 23 = .ok (.iconst 0, 1) := by decide +kernel
theorem dX11_span_24 : decode cX11_span 24 = .ok (.iconst 1, 1) := by decide +kernel
theorem dX11_span_25 : decode cX11_span 25 = .ok (.invokestatic 62, 3) := by decide +kernel
theorem dX11_span_28 : decode cX11_span 28 = .ok (.ifCond .ne 9, 3) := by decide +kernel
theorem dX11_span_37 : decode cX11_span 37 = .ok (.iload 5, 2) := by decide +kernel
theorem dX11_span_39 : decode cX11_span 39 = .ok (.ifCond .eq 10, 3) := by decide +kernel
theorem dX11_span_49 : decode cX11_span 49 = .ok (.aload_n 0, 1) := by decide +kernel
theorem dX11_span_50 : decode cX11_span 50 = .ok (.getfield 12, 3) := by decide +kernel
theorem dX11_span_53 : decode cX11_span 53 = .ok (.getfield 196, 3) := by decide +kernel
theorem dX11_span_56 : decode cX11_span 56 = .ok (.iload_n 3, 1) := by decide +kernel
theorem dX11_span_57 : decode cX11_span 57 = .ok (.invokevirtual 289, 3) := by decide +kernel
theorem dX11_span_60 : decode cX11_span 60 = .ok (.istore 6, 2) := by decide +kernel
theorem dX11_span_62 : decode cX11_span 62 = .ok (.iload 6, 2) := by decide +kernel
theorem dX11_span_64 : decode cX11_span 64 = .ok (.ifCond .lt 20, 3) := by decide +kernel
theorem dX11_span_67 : decode cX11_span 67 = .ok (.aload_n 0, 1) := by decide +kernel
theorem dX11_span_68 : decode cX11_span 68 = .ok (.getfield 12, 3) := by decide +kernel
theorem dX11_span_71 : decode cX11_span 71 = .ok (.getfield 196, 3) := by decide +kernel
theorem dX11_span_74 : decode cX11_span 74 = .ok (.iload 6, 2) := by decide +kernel
theorem dX11_span_76 : decode cX11_span 76 = .ok (.iconst 0, 1) := by decide +kernel
theorem dX11_span_77 : decode cX11_span 77 = .ok (.invokevirtual 292, 3) := by decide +kernel
theorem dX11_span_80 : decode cX11_span 80 = .ok (.iload_n 1, 1) := by decide +kernel
theorem dX11_span_81 : decode cX11_span 81 = .ok (.if_icmp .eq 9, 3) := by decide +kernel
theorem dX11_span_90 : decode cX11_span 90 = .ok (.aload_n 0, 1) := by decide +kernel
theorem dX11_span_91 : decode cX11_span 91 = .ok (.getfield 12, 3) := by decide +kernel
theorem dX11_span_94 : decode cX11_span 94 = .ok (.getfield 196, 3) := by decide +kernel
theorem dX11_span_97 : decode cX11_span 97 = .ok (.iload_n 2, 1) := by decide +kernel
theorem dX11_span_98 : decode cX11_span 98 = .ok (.iload_n 3, 1) := by decide +kernel
theorem dX11_span_99 : decode cX11_span 99 = .ok (.invokevirtual 295, 3) := by decide +kernel
theorem dX11_span_102 : decode cX11_span 102 = .ok (.istore 7, 2) := by decide +kernel
theorem dX11_span_104 : decode cX11_span 104 = .ok (.iload 7, 2) := by decide +kernel
theorem dX11_span_106 : decode cX11_span 106 = .ok (.ifCond .ge 9, 3) := by decide +kernel
theorem dX11_span_115 : decode cX11_span 115 = .ok (.iload 4, 2) := by decide +kernel
theorem dX11_span_117 : decode cX11_span 117 = .ok (.iconst 1, 1) := by decide +kernel
theorem dX11_span_118 : decode cX11_span 118 = .ok (.if_icmp .ne 8, 3) := by decide +kernel
theorem dX11_span_121 : decode cX11_span 121 = .ok (.iload 7, 2) := by decide +kernel
theorem dX11_span_123 : decode cX11_span 123 = .ok (.goto 18, 3) := by decide +kernel
theorem dX11_span_126 : decode cX11_span 126 = .ok (.aload_n 0, 1) := by decide +kernel
theorem dX11_span_127 : decode cX11_span 127 = .ok (.getfield 12, 3) := by decide +kernel
theorem dX11_span_130 : decode cX11_span 130 = .ok (.getfield 196, 3) := by decide +kernel
theorem dX11_span_133 : decode cX11_span 133 = .ok (.iload_n 2, 1) := by decide +kernel
theorem dX11_span_134 : decode cX11_span 134 = .ok (.iload_n 1, 1) := by decide +kernel
theorem dX11_span_135 : decode cX11_span 135 = .ok (.iload_n 3, 1) := by decide +kernel
theorem dX11_span_136 : decode cX11_span 136 = .ok (.iload 7, 2) := by decide +kernel
theorem dX11_span_138 : decode cX11_span 138 = .ok (.invokevirtual 298, 3) := by decide +kernel
theorem dX11_span_109 : decode cX11_span 109 = .ok (.aload_n 0, 1) := by decide +kernel
theorem dX11_span_110 : decode cX11_span 110 = .ok (.iconst 2, 1) := by decide +kernel
theorem dX11_span_111 : decode cX11_span 111 = .ok (.invokevirtual 66, 3) := by decide +kernel
theorem dX11_span_114 : decode cX11_span 114 = .ok (.ireturn, 1) := by decide +kernel
theorem dX11_span_42 : decode cX11_span 42 = .ok (.aload_n 0, 1) := by decide +kernel
theorem dX11_span_43 : decode cX11_span 43 = .ok (.iload 5, 2) := by decide +kernel
theorem dX11_span_45 : decode cX11_span 45 = .ok (.invokevirtual 66, 3) := by decide +kernel
theorem dX11_span_48 : decode cX11_span 48 = .ok (.ireturn, 1) := by decide +kernel
def D_X11_span_31 (N : Nat) (h : mh_H) (l0 : Nat) : Option (Int32 × mh_H) :=
  kO h 11 l0 <|
  (D_X11_error N h l0 (1 : Int32)).bind fun q1 =>
  some (q1.1, q1.2)
set_option maxHeartbeats 4000000 in
set_option maxRecDepth 100000 in
theorem T_X11_span_31 {P : mh_E → Prop} {N d : Nat} (hd : 4 ≤ d) {z : (Int32 × mh_H)} {h : mh_H} {l0 : Nat} (hq : D_X11_span_31 N h l0 = some z) : mh_go P d mX11_span 31 [some (.ref l0), none, none, none, none, none, none, none, none] [] h (some (.int z.1)) z.2 := by
  unfold D_X11_span_31 at hq
  refine st_aload_n (pc := 31) dX11_span_31 rfl ?_
  refine st_iconst (pc := 32) (v := (1 : Int32)) dX11_span_32 rfl ?_
  obtain ⟨⟨hbq1, hkq1⟩, hq⟩ := mh_oi hq
  obtain ⟨q1, e1, hq⟩ := mh_ob hq
  refine st_invV (pc := 33) (ci := 11) (vs := [.int (1 : Int32)]) (rest := []) (st2 := [.int q1.1]) dX11_span_33 okX11_error (by decide) hkq1 hbq1 wd_326 wd_328 wp_0 pdX11_error rfl rfl rfl rfl (Nat.le_trans (by decide) hd) (Nat.le_of_ble_eq_true rfl) (T_X11_error (Nat.le_refl _) e1) rfl ?_
  exact bd_iret (pc := 36) hq dX11_span_36 rfl
def D_X11_span_84 (N : Nat) (h : mh_H) (l0 : Nat) : Option (Int32 × mh_H) :=
  kO h 11 l0 <|
  (D_X11_error N h l0 (3 : Int32)).bind fun q1 =>
  some (q1.1, q1.2)
set_option maxHeartbeats 4000000 in
set_option maxRecDepth 100000 in
theorem T_X11_span_84 {P : mh_E → Prop} {N d : Nat} (hd : 4 ≤ d) {z : (Int32 × mh_H)} {h : mh_H} {l0 : Nat} (hq : D_X11_span_84 N h l0 = some z) : mh_go P d mX11_span 84 [some (.ref l0), none, none, none, none, none, none, none, none] [] h (some (.int z.1)) z.2 := by
  unfold D_X11_span_84 at hq
  refine st_aload_n (pc := 84) dX11_span_84 rfl ?_
  refine st_iconst (pc := 85) (v := (3 : Int32)) dX11_span_85 rfl ?_
  obtain ⟨⟨hbq1, hkq1⟩, hq⟩ := mh_oi hq
  obtain ⟨q1, e1, hq⟩ := mh_ob hq
  refine st_invV (pc := 86) (ci := 11) (vs := [.int (3 : Int32)]) (rest := []) (st2 := [.int q1.1]) dX11_span_86 okX11_error (by decide) hkq1 hbq1 wd_326 wd_328 wp_0 pdX11_error rfl rfl rfl rfl (Nat.le_trans (by decide) hd) (Nat.le_of_ble_eq_true rfl) (T_X11_error (Nat.le_refl _) e1) rfl ?_
  exact bd_iret (pc := 89) hq dX11_span_89 rfl
def D_X11_span_141 (N : Nat) (h : mh_H) (l0 : Nat) (l6 : Int32) (s0 : Int32) : Option (Int32 × mh_H) :=
  if 0 ≤ s0 then ((gR h 11 l0 0).bind fun v1 =>
  (gR h 10 v1 8).bind fun v2 =>
  kO h 1 v2 <|
  (D_X1_lookPart N h v2 s0 (2 : Int32)).bind fun q3 =>
  (gR q3.2 11 l0 0).bind fun v4 =>
  (gR q3.2 10 v4 8).bind fun v5 =>
  kO q3.2 1 v5 <|
  (D_X1_putPart N q3.2 v5 l6 (3 : Int32)).bind fun q6 =>
  some (q3.1 - q6.1, q6.2))
  else (some ((0 : Int32), h))
set_option maxHeartbeats 4000000 in
set_option maxRecDepth 100000 in
theorem T_X11_span_141 {P : mh_E → Prop} {N d : Nat} (hd : 4 ≤ d) {z : (Int32 × mh_H)} {h : mh_H} {l0 : Nat} {l6 : Int32} {s0 : Int32} (hq : D_X11_span_141 N h l0 l6 s0 = some z) : mh_go P d mX11_span 141 [some (.ref l0), none, none, none, none, none, some (.int l6), none, none] [.int s0] h (some (.int z.1)) z.2 := by
  unfold D_X11_span_141 at hq
  refine st_istore (pc := 141) (lv' := [some (.ref l0), none, none, none, none, none, some (.int l6), none, some (.int s0)]) dX11_span_141 rfl (by decide) rfl ?_
  refine st_iload (pc := 143) dX11_span_143 rfl ?_
  refine bd_if_ge (pc := 145) (tgt := 152) hq dX11_span_145 (by decide) (fun _ hq => ?_) (fun _ hq => ?_)
  ·
    refine st_aload_n (pc := 152) dX11_span_152 rfl ?_
    refine bd_getr (pc := 153) hq dX11_span_153 fl_11_12_11 rfl (fun v1 hq => ?_)
    refine bd_getr (pc := 156) hq dX11_span_156 fl_11_196_10 rfl (fun v2 hq => ?_)
    refine st_iload (pc := 159) dX11_span_159 rfl ?_
    refine st_iconst (pc := 161) (v := (2 : Int32)) dX11_span_161 rfl ?_
    obtain ⟨⟨hbq3, hkq3⟩, hq⟩ := mh_oi hq
    obtain ⟨q3, e3, hq⟩ := mh_ob hq
    refine st_invV (pc := 162) (ci := 1) (vs := [.int s0, .int (2 : Int32)]) (rest := []) (st2 := [.int q3.1]) dX11_span_162 okX1_lookPart (by decide) hkq3 hbq3 wd_922 wd_884 wd_885 pdX1_lookPart rfl rfl rfl rfl (Nat.le_trans (by decide) hd) (Nat.le_of_ble_eq_true rfl) (T_X1_lookPart (Nat.le_refl _) e3) rfl ?_
    refine st_aload_n (pc := 165) dX11_span_165 rfl ?_
    refine bd_getr (pc := 166) hq dX11_span_166 fl_11_12_11 rfl (fun v4 hq => ?_)
    refine bd_getr (pc := 169) hq dX11_span_169 fl_11_196_10 rfl (fun v5 hq => ?_)
    refine st_iload (pc := 172) dX11_span_172 rfl ?_
    refine st_iconst (pc := 174) (v := (3 : Int32)) dX11_span_174 rfl ?_
    obtain ⟨⟨hbq6, hkq6⟩, hq⟩ := mh_oi hq
    obtain ⟨q6, e6, hq⟩ := mh_ob hq
    refine st_invV (pc := 175) (ci := 1) (vs := [.int l6, .int (3 : Int32)]) (rest := [.int q3.1]) (st2 := [.int q6.1, .int q3.1]) dX11_span_175 okX1_putPart (by decide) hkq6 hbq6 wd_913 wd_860 wd_861 pdX1_putPart rfl rfl rfl rfl (Nat.le_trans (by decide) hd) (Nat.le_of_ble_eq_true rfl) (T_X1_putPart (Nat.le_refl _) e6) rfl ?_
    refine st_isub (pc := 178) dX11_span_178 ?_
    exact bd_iret (pc := 179) hq dX11_span_179 rfl
  ·
    refine st_iconst (pc := 148) (v := (0 : Int32)) dX11_span_148 rfl ?_
    refine st_goto (pc := 149) (tgt := 179) dX11_span_149 (by decide) ?_
    exact bd_iret (pc := 179) hq dX11_span_179 rfl
def D_X11_span (N : Nat) (h : mh_H) (l0 : Nat) (l1 : Int32) (l2 : Int32) (l3 : Int32) (l4 : Int32) : Option (Int32 × mh_H) :=
  kO h 11 l0 <|
  (D_X11_pairError N h l0 l1 l2).bind fun q1 =>
  if q1.1 = (1 : Int32) then (D_X11_span_31 N q1.2 l0)
  else ((D_X11_isColour N q1.2 l3).bind fun q2 =>
  if q2.1 = 0 then (D_X11_span_31 N q2.2 l0)
  else ((D_X11_within N q2.2 l4 (0 : Int32) (1 : Int32)).bind fun q3 =>
  if q3.1 = 0 then (D_X11_span_31 N q3.2 l0)
  else (if q1.1 = 0 then ((gR q3.2 11 l0 0).bind fun v4 =>
  (gR q3.2 10 v4 8).bind fun v5 =>
  kO q3.2 1 v5 <|
  (D_X1_onlyPut N q3.2 v5 l3).bind fun q6 =>
  if q6.1 < 0 then (D_X11_span_84 N q6.2 l0)
  else ((gR q6.2 11 l0 0).bind fun v7 =>
  (gR q6.2 10 v7 8).bind fun v8 =>
  kO q6.2 1 v8 <|
  (D_X1_putPart N q6.2 v8 q6.1 (0 : Int32)).bind fun q9 =>
  if q9.1 = l1 then ((gR q9.2 11 l0 0).bind fun v10 =>
  (gR q9.2 10 v10 8).bind fun v11 =>
  kO q9.2 1 v11 <|
  (D_X1_firstSaw N q9.2 v11 l2 l3).bind fun q12 =>
  if 0 ≤ q12.1 then (if l4 = (1 : Int32) then (D_X11_span_141 N q12.2 l0 q6.1 q12.1)
  else ((gR q12.2 11 l0 0).bind fun v13 =>
  (gR q12.2 10 v13 8).bind fun v14 =>
  kO q12.2 1 v14 <|
  (D_X1_latestVain N q12.2 v14 l2 l1 l3 q12.1).bind fun q15 =>
  D_X11_span_141 N q15.2 l0 q6.1 q15.1))
  else (kO q12.2 11 l0 <|
  (D_X11_error N q12.2 l0 (2 : Int32)).bind fun q13 =>
  some (q13.1, q13.2)))
  else (D_X11_span_84 N q9.2 l0)))
  else (kO q3.2 11 l0 <|
  (D_X11_error N q3.2 l0 q1.1).bind fun q4 =>
  some (q4.1, q4.2)))))
set_option maxHeartbeats 4000000 in
set_option maxRecDepth 100000 in
theorem T_X11_span {P : mh_E → Prop} {N d : Nat} (hd : 4 ≤ d) {z : (Int32 × mh_H)} {h : mh_H} {l0 : Nat} {l1 : Int32} {l2 : Int32} {l3 : Int32} {l4 : Int32} (hq : D_X11_span N h l0 l1 l2 l3 l4 = some z) : mh_go P d mX11_span 0 [some (.ref l0), some (.int l1), some (.int l2), some (.int l3), some (.int l4), none, none, none, none] [] h (some (.int z.1)) z.2 := by
  unfold D_X11_span at hq
  refine st_aload_n (pc := 0) dX11_span_0 rfl ?_
  refine st_iload_n (pc := 1) dX11_span_1 rfl ?_
  refine st_iload_n (pc := 2) dX11_span_2 rfl ?_
  obtain ⟨⟨hbq1, hkq1⟩, hq⟩ := mh_oi hq
  obtain ⟨q1, e1, hq⟩ := mh_ob hq
  refine st_invV (pc := 3) (ci := 11) (vs := [.int l1, .int l2]) (rest := []) (st2 := [.int q1.1]) dX11_span_3 okX11_pairError (by decide) hkq1 hbq1 wd_875 wd_877 wp_25 pdX11_pairError rfl rfl rfl rfl (Nat.le_trans (by decide) hd) (Nat.le_of_ble_eq_true rfl) (T_X11_pairError (Nat.le_refl _) e1) rfl ?_
  refine st_istore (pc := 6) (lv' := [some (.ref l0), some (.int l1), some (.int l2), some (.int l3), some (.int l4), some (.int q1.1), none, none, none]) dX11_span_6 rfl (by decide) rfl ?_
  refine st_iload (pc := 8) dX11_span_8 rfl ?_
  refine st_iconst (pc := 10) (v := (1 : Int32)) dX11_span_10 rfl ?_
  refine bd_icmp_eq (pc := 11) (tgt := 31) hq dX11_span_11 (by decide) (fun _ hq => ?_) (fun _ hq => ?_)
  ·
    refine st_lesS (lv' := [some (.ref l0), none, none, none, none, none, none, none, none]) ⟨Or.inr rfl, Or.inl rfl, Or.inl rfl, Or.inl rfl, Or.inl rfl, Or.inl rfl, Or.inr rfl, Or.inr rfl, Or.inr rfl, trivial⟩ ?_
    exact T_X11_span_31 hd hq
  ·
    refine st_iload_n (pc := 14) dX11_span_14 rfl ?_
    obtain ⟨q2, e2, hq⟩ := mh_ob hq
    refine st_invS (pc := 15) (Y := mX11_isColour) (vs := [.int l3]) (rest := []) (st2 := [.int q2.1]) dX11_span_15 okX11_isColour wd_506 wd_507 pdX11_isColour rfl rfl rfl rfl (Nat.le_trans (by decide) hd) (Nat.le_of_ble_eq_true rfl) (T_X11_isColour (Nat.le_refl _) e2) rfl ?_
    refine bd_if_eq (pc := 18) (tgt := 31) hq dX11_span_18 (by decide) (fun _ hq => ?_) (fun _ hq => ?_)
    ·
      refine st_lesS (lv' := [some (.ref l0), none, none, none, none, none, none, none, none]) ⟨Or.inr rfl, Or.inl rfl, Or.inl rfl, Or.inl rfl, Or.inl rfl, Or.inl rfl, Or.inr rfl, Or.inr rfl, Or.inr rfl, trivial⟩ ?_
      exact T_X11_span_31 hd hq
    ·
      refine st_iload (pc := 21) dX11_span_21 rfl ?_
      refine st_iconst (pc := 23) (v := (0 : Int32)) dX11_span_23 rfl ?_
      refine st_iconst (pc := 24) (v := (1 : Int32)) dX11_span_24 rfl ?_
      obtain ⟨q3, e3, hq⟩ := mh_ob hq
      refine st_invS (pc := 25) (Y := mX11_within) (vs := [.int l4, .int (0 : Int32), .int (1 : Int32)]) (rest := []) (st2 := [.int q3.1]) dX11_span_25 okX11_within wd_323 wd_324 pdX11_within rfl rfl rfl rfl (Nat.le_trans (by decide) hd) (Nat.le_of_ble_eq_true rfl) (T_X11_within (Nat.le_refl _) e3) rfl ?_
      refine bd_if_ne (pc := 28) (tgt := 37) hq dX11_span_28 (by decide) (fun _ hq => ?_) (fun _ hq => ?_)
      ·
        refine st_lesS (lv' := [some (.ref l0), none, none, none, none, none, none, none, none]) ⟨Or.inr rfl, Or.inl rfl, Or.inl rfl, Or.inl rfl, Or.inl rfl, Or.inl rfl, Or.inr rfl, Or.inr rfl, Or.inr rfl, trivial⟩ ?_
        exact T_X11_span_31 hd hq
      ·
        refine st_iload (pc := 37) dX11_span_37 rfl ?_
        refine bd_if_eq (pc := 39) (tgt := 49) hq dX11_span_39 (by decide) (fun _ hq => ?_) (fun _ hq => ?_)
        ·
          refine st_aload_n (pc := 49) dX11_span_49 rfl ?_
          refine bd_getr (pc := 50) hq dX11_span_50 fl_11_12_11 rfl (fun v4 hq => ?_)
          refine bd_getr (pc := 53) hq dX11_span_53 fl_11_196_10 rfl (fun v5 hq => ?_)
          refine st_iload_n (pc := 56) dX11_span_56 rfl ?_
          obtain ⟨⟨hbq6, hkq6⟩, hq⟩ := mh_oi hq
          obtain ⟨q6, e6, hq⟩ := mh_ob hq
          refine st_invV (pc := 57) (ci := 1) (vs := [.int l3]) (rest := []) (st2 := [.int q6.1]) dX11_span_57 okX1_onlyPut (by decide) hkq6 hbq6 wd_909 wd_910 wd_911 pdX1_onlyPut rfl rfl rfl rfl (Nat.le_trans (by decide) hd) (Nat.le_of_ble_eq_true rfl) (T_X1_onlyPut (Nat.le_refl _) e6) rfl ?_
          refine st_istore (pc := 60) (lv' := [some (.ref l0), some (.int l1), some (.int l2), some (.int l3), some (.int l4), some (.int q1.1), some (.int q6.1), none, none]) dX11_span_60 rfl (by decide) rfl ?_
          refine st_iload (pc := 62) dX11_span_62 rfl ?_
          refine bd_if_lt (pc := 64) (tgt := 84) hq dX11_span_64 (by decide) (fun _ hq => ?_) (fun _ hq => ?_)
          ·
            refine st_lesS (lv' := [some (.ref l0), none, none, none, none, none, none, none, none]) ⟨Or.inr rfl, Or.inl rfl, Or.inl rfl, Or.inl rfl, Or.inl rfl, Or.inl rfl, Or.inl rfl, Or.inr rfl, Or.inr rfl, trivial⟩ ?_
            exact T_X11_span_84 hd hq
          ·
            refine st_aload_n (pc := 67) dX11_span_67 rfl ?_
            refine bd_getr (pc := 68) hq dX11_span_68 fl_11_12_11 rfl (fun v7 hq => ?_)
            refine bd_getr (pc := 71) hq dX11_span_71 fl_11_196_10 rfl (fun v8 hq => ?_)
            refine st_iload (pc := 74) dX11_span_74 rfl ?_
            refine st_iconst (pc := 76) (v := (0 : Int32)) dX11_span_76 rfl ?_
            obtain ⟨⟨hbq9, hkq9⟩, hq⟩ := mh_oi hq
            obtain ⟨q9, e9, hq⟩ := mh_ob hq
            refine st_invV (pc := 77) (ci := 1) (vs := [.int q6.1, .int (0 : Int32)]) (rest := []) (st2 := [.int q9.1]) dX11_span_77 okX1_putPart (by decide) hkq9 hbq9 wd_913 wd_860 wd_861 pdX1_putPart rfl rfl rfl rfl (Nat.le_trans (by decide) hd) (Nat.le_of_ble_eq_true rfl) (T_X1_putPart (Nat.le_refl _) e9) rfl ?_
            refine st_iload_n (pc := 80) dX11_span_80 rfl ?_
            refine bd_icmp_eq (pc := 81) (tgt := 90) hq dX11_span_81 (by decide) (fun _ hq => ?_) (fun _ hq => ?_)
            ·
              refine st_aload_n (pc := 90) dX11_span_90 rfl ?_
              refine bd_getr (pc := 91) hq dX11_span_91 fl_11_12_11 rfl (fun v10 hq => ?_)
              refine bd_getr (pc := 94) hq dX11_span_94 fl_11_196_10 rfl (fun v11 hq => ?_)
              refine st_iload_n (pc := 97) dX11_span_97 rfl ?_
              refine st_iload_n (pc := 98) dX11_span_98 rfl ?_
              obtain ⟨⟨hbq12, hkq12⟩, hq⟩ := mh_oi hq
              obtain ⟨q12, e12, hq⟩ := mh_ob hq
              refine st_invV (pc := 99) (ci := 1) (vs := [.int l2, .int l3]) (rest := []) (st2 := [.int q12.1]) dX11_span_99 okX1_firstSaw (by decide) hkq12 hbq12 wd_914 wd_915 wd_916 pdX1_firstSaw rfl rfl rfl rfl (Nat.le_trans (by decide) hd) (Nat.le_of_ble_eq_true rfl) (T_X1_firstSaw (Nat.le_refl _) e12) rfl ?_
              refine st_istore (pc := 102) (lv' := [some (.ref l0), some (.int l1), some (.int l2), some (.int l3), some (.int l4), some (.int q1.1), some (.int q6.1), some (.int q12.1), none]) dX11_span_102 rfl (by decide) rfl ?_
              refine st_iload (pc := 104) dX11_span_104 rfl ?_
              refine bd_if_ge (pc := 106) (tgt := 115) hq dX11_span_106 (by decide) (fun _ hq => ?_) (fun _ hq => ?_)
              ·
                refine st_iload (pc := 115) dX11_span_115 rfl ?_
                refine st_iconst (pc := 117) (v := (1 : Int32)) dX11_span_117 rfl ?_
                refine bd_icmp_ne (pc := 118) (tgt := 126) hq dX11_span_118 (by decide) (fun _ hq => ?_) (fun _ hq => ?_)
                ·
                  refine st_iload (pc := 121) dX11_span_121 rfl ?_
                  refine st_goto (pc := 123) (tgt := 141) dX11_span_123 (by decide) ?_
                  refine st_lesS (lv' := [some (.ref l0), none, none, none, none, none, some (.int q6.1), none, none]) ⟨Or.inr rfl, Or.inl rfl, Or.inl rfl, Or.inl rfl, Or.inl rfl, Or.inl rfl, Or.inr rfl, Or.inl rfl, Or.inr rfl, trivial⟩ ?_
                  exact T_X11_span_141 hd hq
                ·
                  refine st_aload_n (pc := 126) dX11_span_126 rfl ?_
                  refine bd_getr (pc := 127) hq dX11_span_127 fl_11_12_11 rfl (fun v13 hq => ?_)
                  refine bd_getr (pc := 130) hq dX11_span_130 fl_11_196_10 rfl (fun v14 hq => ?_)
                  refine st_iload_n (pc := 133) dX11_span_133 rfl ?_
                  refine st_iload_n (pc := 134) dX11_span_134 rfl ?_
                  refine st_iload_n (pc := 135) dX11_span_135 rfl ?_
                  refine st_iload (pc := 136) dX11_span_136 rfl ?_
                  obtain ⟨⟨hbq15, hkq15⟩, hq⟩ := mh_oi hq
                  obtain ⟨q15, e15, hq⟩ := mh_ob hq
                  refine st_invV (pc := 138) (ci := 1) (vs := [.int l2, .int l1, .int l3, .int q12.1]) (rest := []) (st2 := [.int q15.1]) dX11_span_138 okX1_latestVain (by decide) hkq15 hbq15 wd_918 wd_919 wd_920 pdX1_latestVain rfl rfl rfl rfl (Nat.le_trans (by decide) hd) (Nat.le_of_ble_eq_true rfl) (T_X1_latestVain (Nat.le_refl _) e15) rfl ?_
                  refine st_lesS (lv' := [some (.ref l0), none, none, none, none, none, some (.int q6.1), none, none]) ⟨Or.inr rfl, Or.inl rfl, Or.inl rfl, Or.inl rfl, Or.inl rfl, Or.inl rfl, Or.inr rfl, Or.inl rfl, Or.inr rfl, trivial⟩ ?_
                  exact T_X11_span_141 hd hq
              ·
                refine st_aload_n (pc := 109) dX11_span_109 rfl ?_
                refine st_iconst (pc := 110) (v := (2 : Int32)) dX11_span_110 rfl ?_
                obtain ⟨⟨hbq13, hkq13⟩, hq⟩ := mh_oi hq
                obtain ⟨q13, e13, hq⟩ := mh_ob hq
                refine st_invV (pc := 111) (ci := 11) (vs := [.int (2 : Int32)]) (rest := []) (st2 := [.int q13.1]) dX11_span_111 okX11_error (by decide) hkq13 hbq13 wd_326 wd_328 wp_0 pdX11_error rfl rfl rfl rfl (Nat.le_trans (by decide) hd) (Nat.le_of_ble_eq_true rfl) (T_X11_error (Nat.le_refl _) e13) rfl ?_
                exact bd_iret (pc := 114) hq dX11_span_114 rfl
            ·
              refine st_lesS (lv' := [some (.ref l0), none, none, none, none, none, none, none, none]) ⟨Or.inr rfl, Or.inl rfl, Or.inl rfl, Or.inl rfl, Or.inl rfl, Or.inl rfl, Or.inl rfl, Or.inr rfl, Or.inr rfl, trivial⟩ ?_
              exact T_X11_span_84 hd hq
        ·
          refine st_aload_n (pc := 42) dX11_span_42 rfl ?_
          refine st_iload (pc := 43) dX11_span_43 rfl ?_
          obtain ⟨⟨hbq4, hkq4⟩, hq⟩ := mh_oi hq
          obtain ⟨q4, e4, hq⟩ := mh_ob hq
          refine st_invV (pc := 45) (ci := 11) (vs := [.int q1.1]) (rest := []) (st2 := [.int q4.1]) dX11_span_45 okX11_error (by decide) hkq4 hbq4 wd_326 wd_328 wp_0 pdX11_error rfl rfl rfl rfl (Nat.le_trans (by decide) hd) (Nat.le_of_ble_eq_true rfl) (T_X11_error (Nat.le_refl _) e4) rfl ?_
          exact bd_iret (pc := 48) hq dX11_span_48 rfl
-- HoleWater.isMust(II)Z
theorem dX11_isMust_0 : decode cX11_isMust 0 = .ok (.aload_n 0, 1) := by decide +kernel
theorem dX11_isMust_1 : decode cX11_isMust 1 = .ok (.iload_n 1, 1) := by decide +kernel
theorem dX11_isMust_2 : decode cX11_isMust 2 = .ok (.iload_n 2, 1) := by decide +kernel
theorem dX11_isMust_3 : decode cX11_isMust 3 = .ok (.invokevirtual 280, 3) := by decide +kernel
theorem dX11_isMust_6 : decode cX11_isMust 6 = .ok (.ifCond .ne 41, 3) := by decide +kernel
theorem dX11_isMust_9 : decode cX11_isMust 9 = .ok (.aload_n 0, 1) := by decide +kernel
theorem dX11_isMust_10 : decode cX11_isMust 10 = .ok (.getfield 12, 3) := by decide +kernel
theorem dX11_isMust_13 : decode cX11_isMust 13 = .ok (.getfield 196, 3) := by decide +kernel
theorem dX11_isMust_16 : decode cX11_isMust 16 = .ok (.iload_n 1, 1) := by decide +kernel
theorem dX11_isMust_17 : decode cX11_isMust 17 = .ok (.iload_n 2, 1) := by decide +kernel
theorem dX11_isMust_18 : decode cX11_isMust 18 = .ok (.iconst 2, 1) := by decide +kernel
theorem dX11_isMust_19 : decode cX11_isMust 19 = .ok (.invokevirtual 283, 3) := by decide +kernel
theorem dX11_isMust_22 : decode cX11_isMust 22 = .ok (.iconst 3, 1) := by decide +kernel
theorem dX11_isMust_23 : decode cX11_isMust 23 = .ok (.if_icmp .ne 24, 3) := by decide +kernel
theorem dX11_isMust_26 : decode cX11_isMust 26 = .ok (.aload_n 0, 1) := by decide +kernel
theorem dX11_isMust_27 : decode cX11_isMust 27 = .ok (.getfield 12, 3) := by decide +kernel
theorem dX11_isMust_30 : decode cX11_isMust 30 = .ok (.getfield 196, 3) := by decide +kernel
theorem dX11_isMust_33 : decode cX11_isMust 33 = .ok (.iload_n 1, 1) := by decide +kernel
theorem dX11_isMust_34 : decode cX11_isMust 34 = .ok (.iload_n 2, 1) := by decide +kernel
theorem dX11_isMust_35 : decode cX11_isMust 35 = .ok (.iconst 1, 1) := by decide +kernel
theorem dX11_isMust_36 : decode cX11_isMust 36 = .ok (.invokevirtual 283, 3) := by decide +kernel
theorem dX11_isMust_39 : decode cX11_isMust 39 = .ok (.iconst 1, 1) := by decide +kernel
theorem dX11_isMust_40 : decode cX11_isMust 40 = .ok (.if_icmp .ne 7, 3) := by decide +kernel
theorem dX11_isMust_43 : decode cX11_isMust 43 = .ok (.iconst 1, 1) := by decide +kernel
theorem dX11_isMust_44 : decode cX11_isMust 44 = .ok (.goto 4, 3) := by decide +kernel
theorem dX11_isMust_48 : decode cX11_isMust 48 = .ok (.ireturn, 1) := by decide +kernel
theorem dX11_isMust_47 : decode cX11_isMust 47 = .ok (.iconst 0, 1) := by decide +kernel
def D_X11_isMust (N : Nat) (h : mh_H) (l0 : Nat) (l1 : Int32) (l2 : Int32) : Option (Int32 × mh_H) :=
  kO h 11 l0 <|
  (D_X11_pairError N h l0 l1 l2).bind fun q1 =>
  if q1.1 = 0 then ((gR q1.2 11 l0 0).bind fun v2 =>
  (gR q1.2 10 v2 8).bind fun v3 =>
  kO q1.2 1 v3 <|
  (D_X1_said N q1.2 v3 l1 l2 (2 : Int32)).bind fun q4 =>
  if q4.1 = (3 : Int32) then ((gR q4.2 11 l0 0).bind fun v5 =>
  (gR q4.2 10 v5 8).bind fun v6 =>
  kO q4.2 1 v6 <|
  (D_X1_said N q4.2 v6 l1 l2 (1 : Int32)).bind fun q7 =>
  if q7.1 = (1 : Int32) then (zB (1 : Int32) q7.2)
  else (zB (0 : Int32) q7.2))
  else (zB (0 : Int32) q4.2))
  else (zB (0 : Int32) q1.2)
set_option maxHeartbeats 4000000 in
set_option maxRecDepth 100000 in
theorem T_X11_isMust {P : mh_E → Prop} {N d : Nat} (hd : 4 ≤ d) {z : (Int32 × mh_H)} {h : mh_H} {l0 : Nat} {l1 : Int32} {l2 : Int32} (hq : D_X11_isMust N h l0 l1 l2 = some z) : mh_go P d mX11_isMust 0 [some (.ref l0), some (.int l1), some (.int l2)] [] h (some (.int z.1)) z.2 := by
  unfold D_X11_isMust at hq
  refine st_aload_n (pc := 0) dX11_isMust_0 rfl ?_
  refine st_iload_n (pc := 1) dX11_isMust_1 rfl ?_
  refine st_iload_n (pc := 2) dX11_isMust_2 rfl ?_
  obtain ⟨⟨hbq1, hkq1⟩, hq⟩ := mh_oi hq
  obtain ⟨q1, e1, hq⟩ := mh_ob hq
  refine st_invV (pc := 3) (ci := 11) (vs := [.int l1, .int l2]) (rest := []) (st2 := [.int q1.1]) dX11_isMust_3 okX11_pairError (by decide) hkq1 hbq1 wd_875 wd_877 wp_25 pdX11_pairError rfl rfl rfl rfl (Nat.le_trans (by decide) hd) (Nat.le_of_ble_eq_true rfl) (T_X11_pairError (Nat.le_refl _) e1) rfl ?_
  refine bd_if_ne (pc := 6) (tgt := 47) hq dX11_isMust_6 (by decide) (fun _ hq => ?_) (fun _ hq => ?_)
  ·
    refine st_aload_n (pc := 9) dX11_isMust_9 rfl ?_
    refine bd_getr (pc := 10) hq dX11_isMust_10 fl_11_12_11 rfl (fun v2 hq => ?_)
    refine bd_getr (pc := 13) hq dX11_isMust_13 fl_11_196_10 rfl (fun v3 hq => ?_)
    refine st_iload_n (pc := 16) dX11_isMust_16 rfl ?_
    refine st_iload_n (pc := 17) dX11_isMust_17 rfl ?_
    refine st_iconst (pc := 18) (v := (2 : Int32)) dX11_isMust_18 rfl ?_
    obtain ⟨⟨hbq4, hkq4⟩, hq⟩ := mh_oi hq
    obtain ⟨q4, e4, hq⟩ := mh_ob hq
    refine st_invV (pc := 19) (ci := 1) (vs := [.int l1, .int l2, .int (2 : Int32)]) (rest := []) (st2 := [.int q4.1]) dX11_isMust_19 okX1_said (by decide) hkq4 hbq4 wd_879 wd_880 wd_881 pdX1_said rfl rfl rfl rfl (Nat.le_trans (by decide) hd) (Nat.le_of_ble_eq_true rfl) (T_X1_said (Nat.le_refl _) e4) rfl ?_
    refine st_iconst (pc := 22) (v := (3 : Int32)) dX11_isMust_22 rfl ?_
    refine bd_icmp_ne (pc := 23) (tgt := 47) hq dX11_isMust_23 (by decide) (fun _ hq => ?_) (fun _ hq => ?_)
    ·
      refine st_aload_n (pc := 26) dX11_isMust_26 rfl ?_
      refine bd_getr (pc := 27) hq dX11_isMust_27 fl_11_12_11 rfl (fun v5 hq => ?_)
      refine bd_getr (pc := 30) hq dX11_isMust_30 fl_11_196_10 rfl (fun v6 hq => ?_)
      refine st_iload_n (pc := 33) dX11_isMust_33 rfl ?_
      refine st_iload_n (pc := 34) dX11_isMust_34 rfl ?_
      refine st_iconst (pc := 35) (v := (1 : Int32)) dX11_isMust_35 rfl ?_
      obtain ⟨⟨hbq7, hkq7⟩, hq⟩ := mh_oi hq
      obtain ⟨q7, e7, hq⟩ := mh_ob hq
      refine st_invV (pc := 36) (ci := 1) (vs := [.int l1, .int l2, .int (1 : Int32)]) (rest := []) (st2 := [.int q7.1]) dX11_isMust_36 okX1_said (by decide) hkq7 hbq7 wd_879 wd_880 wd_881 pdX1_said rfl rfl rfl rfl (Nat.le_trans (by decide) hd) (Nat.le_of_ble_eq_true rfl) (T_X1_said (Nat.le_refl _) e7) rfl ?_
      refine st_iconst (pc := 39) (v := (1 : Int32)) dX11_isMust_39 rfl ?_
      refine bd_icmp_ne (pc := 40) (tgt := 47) hq dX11_isMust_40 (by decide) (fun _ hq => ?_) (fun _ hq => ?_)
      ·
        refine st_iconst (pc := 43) (v := (1 : Int32)) dX11_isMust_43 rfl ?_
        refine st_goto (pc := 44) (tgt := 48) dX11_isMust_44 (by decide) ?_
        exact bd_zret (pc := 48) hq dX11_isMust_48 rfl
      ·
        refine st_iconst (pc := 47) (v := (0 : Int32)) dX11_isMust_47 rfl ?_
        exact bd_zret (pc := 48) hq dX11_isMust_48 rfl
    ·
      refine st_iconst (pc := 47) (v := (0 : Int32)) dX11_isMust_47 rfl ?_
      exact bd_zret (pc := 48) hq dX11_isMust_48 rfl
  ·
    refine st_iconst (pc := 47) (v := (0 : Int32)) dX11_isMust_47 rfl ?_
    exact bd_zret (pc := 48) hq dX11_isMust_48 rfl
-- HoleWater.musts(II)I
theorem dX11_musts_13 : decode cX11_musts 13 = .ok (.aload_n 0, 1) := by decide +kernel
theorem dX11_musts_14 : decode cX11_musts 14 = .ok (.iconst 1, 1) := by decide +kernel
theorem dX11_musts_15 : decode cX11_musts 15 = .ok (.invokevirtual 66, 3) := by decide +kernel
theorem dX11_musts_18 : decode cX11_musts 18 = .ok (.ireturn, 1) := by decide +kernel
theorem dX11_musts_111 : decode cX11_musts 111 = .ok (.iinc 5 1, 3) := by decide +kernel
theorem dX11_musts_114 : decode cX11_musts 114 = .ok (.goto (-75), 3) := by decide +kernel
theorem dX11_musts_39 : decode cX11_musts 39 = .ok (.iload 5, 2) := by decide +kernel
theorem dX11_musts_41 : decode cX11_musts 41 = .ok (.aload_n 0, 1) := by decide +kernel
theorem dX11_musts_42 : decode cX11_musts 42 = .ok (.getfield 12, 3) := by decide +kernel
theorem dX11_musts_45 : decode cX11_musts 45 = .ok (.getfield 70, 3) := by decide +kernel
theorem dX11_musts_48 : decode cX11_musts 48 = .ok (.if_icmp .ge 69, 3) := by decide +kernel
theorem dX11_musts_117 : decode cX11_musts 117 = .ok (.iinc 4 1, 3) := by decide +kernel
theorem dX11_musts_120 : decode cX11_musts 120 = .ok (.goto (-96), 3) := by decide +kernel
theorem dX11_musts_51 : decode cX11_musts 51 = .ok (.aload_n 0, 1) := by decide +kernel
theorem dX11_musts_52 : decode cX11_musts 52 = .ok (.iload 4, 2) := by decide +kernel
theorem dX11_musts_54 : decode cX11_musts 54 = .ok (.iload 5, 2) := by decide +kernel
theorem dX11_musts_56 : decode cX11_musts 56 = .ok (.invokevirtual 305, 3) := by decide +kernel
theorem dX11_musts_59 : decode cX11_musts 59 = .ok (.ifCond .eq 52, 3) := by decide +kernel
theorem dX11_musts_62 : decode cX11_musts 62 = .ok (.iload_n 3, 1) := by decide +kernel
theorem dX11_musts_63 : decode cX11_musts 63 = .ok (.iload_n 1, 1) := by decide +kernel
theorem dX11_musts_64 : decode cX11_musts 64 = .ok (.if_icmp .ne 44, 3) := by decide +kernel
theorem dX11_musts_67 : decode cX11_musts 67 = .ok (.iload_n 2, 1) := by decide +kernel
theorem dX11_musts_68 : decode cX11_musts 68 = .ok (.ifCond .ne 8, 3) := by decide +kernel
theorem dX11_musts_71 : decode cX11_musts 71 = .ok (.iload 4, 2) := by decide +kernel
theorem dX11_musts_73 : decode cX11_musts 73 = .ok (.goto 34, 3) := by decide +kernel
theorem dX11_musts_107 : decode cX11_musts 107 = .ok (.ireturn, 1) := by decide +kernel
theorem dX11_musts_76 : decode cX11_musts 76 = .ok (.iload_n 2, 1) := by decide +kernel
theorem dX11_musts_77 : decode cX11_musts 77 = .ok (.iconst 1, 1) := by decide +kernel
theorem dX11_musts_78 : decode cX11_musts 78 = .ok (.if_icmp .ne 8, 3) := by decide +kernel
theorem dX11_musts_81 : decode cX11_musts 81 = .ok (.iload 5, 2) := by decide +kernel
theorem dX11_musts_83 : decode cX11_musts 83 = .ok (.goto 24, 3) := by decide +kernel
theorem dX11_musts_86 : decode cX11_musts 86 = .ok (.aload_n 0, 1) := by decide +kernel
theorem dX11_musts_87 : decode cX11_musts 87 = .ok (.getfield 12, 3) := by decide +kernel
theorem dX11_musts_90 : decode cX11_musts 90 = .ok (.getfield 87, 3) := by decide +kernel
theorem dX11_musts_93 : decode cX11_musts 93 = .ok (.iload 4, 2) := by decide +kernel
theorem dX11_musts_95 : decode cX11_musts 95 = .ok (.iaload, 1) := by decide +kernel
theorem dX11_musts_96 : decode cX11_musts 96 = .ok (.aload_n 0, 1) := by decide +kernel
theorem dX11_musts_97 : decode cX11_musts 97 = .ok (.getfield 12, 3) := by decide +kernel
theorem dX11_musts_100 : decode cX11_musts 100 = .ok (.getfield 87, 3) := by decide +kernel
theorem dX11_musts_103 : decode cX11_musts 103 = .ok (.iload 5, 2) := by decide +kernel
theorem dX11_musts_105 : decode cX11_musts 105 = .ok (.iaload, 1) := by decide +kernel
theorem dX11_musts_106 : decode cX11_musts 106 = .ok (.isub, 1) := by decide +kernel
theorem dX11_musts_108 : decode cX11_musts 108 = .ok (.iinc 3 1, 3) := by decide +kernel
theorem dX11_musts_24 : decode cX11_musts 24 = .ok (.iload 4, 2) := by decide +kernel
theorem dX11_musts_26 : decode cX11_musts 26 = .ok (.aload_n 0, 1) := by decide +kernel
theorem dX11_musts_27 : decode cX11_musts 27 = .ok (.getfield 12, 3) := by decide +kernel
theorem dX11_musts_30 : decode cX11_musts 30 = .ok (.getfield 70, 3) := by decide +kernel
theorem dX11_musts_33 : decode cX11_musts 33 = .ok (.if_icmp .ge 90, 3) := by decide +kernel
theorem dX11_musts_123 : decode cX11_musts 123 = .ok (.aload_n 0, 1) := by decide +kernel
theorem dX11_musts_124 : decode cX11_musts 124 = .ok (.iconst 2, 1) := by decide +kernel
theorem dX11_musts_125 : decode cX11_musts 125 = .ok (.invokevirtual 66, 3) := by decide +kernel
theorem dX11_musts_128 : decode cX11_musts 128 = .ok (.ireturn, 1) := by decide +kernel
theorem dX11_musts_36 : decode cX11_musts 36 = .ok (.iconst 0, 1) := by decide +kernel
theorem dX11_musts_37 : decode cX11_musts 37 = .ok (.istore 5, 2) := by decide +kernel
theorem dX11_musts_0 : decode cX11_musts 0 = .ok (.iload_n 1, 1) := by decide +kernel
theorem dX11_musts_1 : decode cX11_musts 1 = .ok (.ifCond .lt 12, 3) := by decide +kernel
theorem dX11_musts_4 : decode cX11_musts 4 = .ok (.iload_n 2, 1) := by decide +kernel
theorem dX11_musts_5 : decode cX11_musts 5 = .ok (.iconst 0, 1) := by decide +kernel
theorem dX11_musts_6 : decode cX11_musts 6 = .ok (.iconst 2, 1) := by decide +kernel
theorem dX11_musts_7 : decode cX11_musts 7 = .ok (.invokestatic 62, 3) := by decide +kernel
theorem dX11_musts_10 : decode cX11_musts 10 = .ok (.ifCond .ne 9, 3) := by decide +kernel
theorem dX11_musts_19 : decode cX11_musts 19 = .ok (.iconst 0, 1) := by decide +kernel
theorem dX11_musts_20 : decode cX11_musts 20 = .ok (.istore_n 3, 1) := by decide +kernel
theorem dX11_musts_21 : decode cX11_musts 21 = .ok (.iconst 0, 1) := by decide +kernel
theorem dX11_musts_22 : decode cX11_musts 22 = .ok (.istore 4, 2) := by decide +kernel
def D_X11_musts_13 (N : Nat) (h : mh_H) (l0 : Nat) : Option (Int32 × mh_H) :=
  kO h 11 l0 <|
  (D_X11_error N h l0 (1 : Int32)).bind fun q1 =>
  some (q1.1, q1.2)
set_option maxHeartbeats 4000000 in
set_option maxRecDepth 100000 in
theorem T_X11_musts_13 {P : mh_E → Prop} {N d : Nat} (hd : 5 ≤ d) {z : (Int32 × mh_H)} {h : mh_H} {l0 : Nat} (hq : D_X11_musts_13 N h l0 = some z) : mh_go P d mX11_musts 13 [some (.ref l0), none, none, none, none, none] [] h (some (.int z.1)) z.2 := by
  unfold D_X11_musts_13 at hq
  refine st_aload_n (pc := 13) dX11_musts_13 rfl ?_
  refine st_iconst (pc := 14) (v := (1 : Int32)) dX11_musts_14 rfl ?_
  obtain ⟨⟨hbq1, hkq1⟩, hq⟩ := mh_oi hq
  obtain ⟨q1, e1, hq⟩ := mh_ob hq
  refine st_invV (pc := 15) (ci := 11) (vs := [.int (1 : Int32)]) (rest := []) (st2 := [.int q1.1]) dX11_musts_15 okX11_error (by decide) hkq1 hbq1 wd_326 wd_328 wp_0 pdX11_error rfl rfl rfl rfl (Nat.le_trans (by decide) hd) (Nat.le_of_ble_eq_true rfl) (T_X11_error (Nat.le_refl _) e1) rfl ?_
  exact bd_iret (pc := 18) hq dX11_musts_18 rfl
def D_X11_musts_111 (N : Nat) (k24 : mh_H → Nat → Int32 → Int32 → Int32 → Int32 → Option (Int32 × mh_H)) (k39 : mh_H → Nat → Int32 → Int32 → Int32 → Int32 → Int32 → Option (Int32 × mh_H)) (h : mh_H) (l0 : Nat) (l1 : Int32) (l2 : Int32) (l3 : Int32) (l4 : Int32) (l5 : Int32) : Option (Int32 × mh_H) :=
  k39 h l0 l1 l2 l3 l4 (l5 + Int32.ofInt (1))
set_option maxHeartbeats 4000000 in
set_option maxRecDepth 100000 in
theorem T_X11_musts_111 {P : mh_E → Prop} {N d : Nat} (hd : 5 ≤ d) {z : (Int32 × mh_H)} {k24 : mh_H → Nat → Int32 → Int32 → Int32 → Int32 → Option (Int32 × mh_H)} (hk24 : ∀ (h : mh_H) (l0 : Nat) (l1 : Int32) (l2 : Int32) (l3 : Int32) (l4 : Int32), k24 h l0 l1 l2 l3 l4 = some z → mh_go P d mX11_musts 24 [some (.ref l0), some (.int l1), some (.int l2), some (.int l3), some (.int l4), none] [] h (some (.int z.1)) z.2) {k39 : mh_H → Nat → Int32 → Int32 → Int32 → Int32 → Int32 → Option (Int32 × mh_H)} (hk39 : ∀ (h : mh_H) (l0 : Nat) (l1 : Int32) (l2 : Int32) (l3 : Int32) (l4 : Int32) (l5 : Int32), k39 h l0 l1 l2 l3 l4 l5 = some z → mh_go P d mX11_musts 39 [some (.ref l0), some (.int l1), some (.int l2), some (.int l3), some (.int l4), some (.int l5)] [] h (some (.int z.1)) z.2) {h : mh_H} {l0 : Nat} {l1 : Int32} {l2 : Int32} {l3 : Int32} {l4 : Int32} {l5 : Int32} (hq : D_X11_musts_111 N k24 k39 h l0 l1 l2 l3 l4 l5 = some z) : mh_go P d mX11_musts 111 [some (.ref l0), some (.int l1), some (.int l2), some (.int l3), some (.int l4), some (.int l5)] [] h (some (.int z.1)) z.2 := by
  unfold D_X11_musts_111 at hq
  refine st_iinc (pc := 111) (lv' := [some (.ref l0), some (.int l1), some (.int l2), some (.int l3), some (.int l4), some (.int (l5 + Int32.ofInt (1)))]) dX11_musts_111 rfl rfl (by decide) rfl ?_
  refine st_goto (pc := 114) (tgt := 39) dX11_musts_114 (by decide) ?_
  exact hk39 _ _ _ _ _ _ _ hq
def D_X11_musts_39 (N : Nat) (k24 : mh_H → Nat → Int32 → Int32 → Int32 → Int32 → Option (Int32 × mh_H)) : Nat → mh_H → Nat → Int32 → Int32 → Int32 → Int32 → Int32 → Option (Int32 × mh_H)
  | 0, _, _, _, _, _, _, _ => none
  | F + 1, h, l0, l1, l2, l3, l4, l5 =>
    (gR h 11 l0 0).bind fun v1 =>
    (gI h 10 v1 0).bind fun v2 =>
    if v2 ≤ l5 then (k24 h l0 l1 l2 l3 (l4 + Int32.ofInt (1)))
    else (kO h 11 l0 <|
    (D_X11_isMust N h l0 l4 l5).bind fun q3 =>
    if q3.1 = 0 then (D_X11_musts_111 N k24 (D_X11_musts_39 N k24 F) q3.2 l0 l1 l2 l3 l4 l5)
    else (if l3 = l1 then (if l2 = 0 then (some (l4, q3.2))
    else (if l2 = (1 : Int32) then (some (l5, q3.2))
    else ((gR q3.2 11 l0 0).bind fun v4 =>
    (gR q3.2 10 v4 5).bind fun v5 =>
    (aI q3.2 v5 l4).bind fun v6 =>
    (gR q3.2 11 l0 0).bind fun v7 =>
    (gR q3.2 10 v7 5).bind fun v8 =>
    (aI q3.2 v8 l5).bind fun v9 =>
    some (v6 - v9, q3.2))))
    else (D_X11_musts_111 N k24 (D_X11_musts_39 N k24 F) q3.2 l0 l1 l2 (l3 + Int32.ofInt (1)) l4 l5)))
set_option maxHeartbeats 4000000 in
set_option maxRecDepth 100000 in
theorem T_X11_musts_39 {P : mh_E → Prop} {N d : Nat} (hd : 5 ≤ d) {z : (Int32 × mh_H)} {k24 : mh_H → Nat → Int32 → Int32 → Int32 → Int32 → Option (Int32 × mh_H)} (hk24 : ∀ (h : mh_H) (l0 : Nat) (l1 : Int32) (l2 : Int32) (l3 : Int32) (l4 : Int32), k24 h l0 l1 l2 l3 l4 = some z → mh_go P d mX11_musts 24 [some (.ref l0), some (.int l1), some (.int l2), some (.int l3), some (.int l4), none] [] h (some (.int z.1)) z.2) : ∀ (F : Nat) (h : mh_H) (l0 : Nat) (l1 : Int32) (l2 : Int32) (l3 : Int32) (l4 : Int32) (l5 : Int32), D_X11_musts_39 N k24 F h l0 l1 l2 l3 l4 l5 = some z → mh_go P d mX11_musts 39 [some (.ref l0), some (.int l1), some (.int l2), some (.int l3), some (.int l4), some (.int l5)] [] h (some (.int z.1)) z.2 := by
  intro F
  induction F with
  | zero => intro h l0 l1 l2 l3 l4 l5 hq; rw [D_X11_musts_39] at hq; cases hq
  | succ F ih =>
    intro h l0 l1 l2 l3 l4 l5 hq
    rw [D_X11_musts_39] at hq
    refine st_iload (pc := 39) dX11_musts_39 rfl ?_
    refine st_aload_n (pc := 41) dX11_musts_41 rfl ?_
    refine bd_getr (pc := 42) hq dX11_musts_42 fl_11_12_11 rfl (fun v1 hq => ?_)
    refine bd_geti (pc := 45) hq dX11_musts_45 fl_11_70_10 rfl (fun v2 hq => ?_)
    refine bd_icmp_ge (pc := 48) (tgt := 117) hq dX11_musts_48 (by decide) (fun _ hq => ?_) (fun _ hq => ?_)
    ·
      refine st_iinc (pc := 117) (lv' := [some (.ref l0), some (.int l1), some (.int l2), some (.int l3), some (.int (l4 + Int32.ofInt (1))), some (.int l5)]) dX11_musts_117 rfl rfl (by decide) rfl ?_
      refine st_goto (pc := 120) (tgt := 24) dX11_musts_120 (by decide) ?_
      refine st_lesS (lv' := [some (.ref l0), some (.int l1), some (.int l2), some (.int l3), some (.int (l4 + Int32.ofInt (1))), none]) ⟨Or.inr rfl, Or.inr rfl, Or.inr rfl, Or.inr rfl, Or.inr rfl, Or.inl rfl, trivial⟩ ?_
      exact hk24 _ _ _ _ _ _ hq
    ·
      refine st_aload_n (pc := 51) dX11_musts_51 rfl ?_
      refine st_iload (pc := 52) dX11_musts_52 rfl ?_
      refine st_iload (pc := 54) dX11_musts_54 rfl ?_
      obtain ⟨⟨hbq3, hkq3⟩, hq⟩ := mh_oi hq
      obtain ⟨q3, e3, hq⟩ := mh_ob hq
      refine st_invV (pc := 56) (ci := 11) (vs := [.int l4, .int l5]) (rest := []) (st2 := [.int q3.1]) dX11_musts_56 okX11_isMust (by decide) hkq3 hbq3 wd_927 wd_929 wp_28 pdX11_isMust rfl rfl rfl rfl (Nat.le_trans (by decide) hd) (Nat.le_of_ble_eq_true rfl) (T_X11_isMust (Nat.le_refl _) e3) rfl ?_
      refine bd_if_eq (pc := 59) (tgt := 111) hq dX11_musts_59 (by decide) (fun _ hq => ?_) (fun _ hq => ?_)
      ·
        exact T_X11_musts_111 hd hk24 ih hq
      ·
        refine st_iload_n (pc := 62) dX11_musts_62 rfl ?_
        refine st_iload_n (pc := 63) dX11_musts_63 rfl ?_
        refine bd_icmp_ne (pc := 64) (tgt := 108) hq dX11_musts_64 (by decide) (fun _ hq => ?_) (fun _ hq => ?_)
        ·
          refine st_iload_n (pc := 67) dX11_musts_67 rfl ?_
          refine bd_if_ne (pc := 68) (tgt := 76) hq dX11_musts_68 (by decide) (fun _ hq => ?_) (fun _ hq => ?_)
          ·
            refine st_iload (pc := 71) dX11_musts_71 rfl ?_
            refine st_goto (pc := 73) (tgt := 107) dX11_musts_73 (by decide) ?_
            exact bd_iret (pc := 107) hq dX11_musts_107 rfl
          ·
            refine st_iload_n (pc := 76) dX11_musts_76 rfl ?_
            refine st_iconst (pc := 77) (v := (1 : Int32)) dX11_musts_77 rfl ?_
            refine bd_icmp_ne (pc := 78) (tgt := 86) hq dX11_musts_78 (by decide) (fun _ hq => ?_) (fun _ hq => ?_)
            ·
              refine st_iload (pc := 81) dX11_musts_81 rfl ?_
              refine st_goto (pc := 83) (tgt := 107) dX11_musts_83 (by decide) ?_
              exact bd_iret (pc := 107) hq dX11_musts_107 rfl
            ·
              refine st_aload_n (pc := 86) dX11_musts_86 rfl ?_
              refine bd_getr (pc := 87) hq dX11_musts_87 fl_11_12_11 rfl (fun v4 hq => ?_)
              refine bd_getr (pc := 90) hq dX11_musts_90 fl_11_87_10 rfl (fun v5 hq => ?_)
              refine st_iload (pc := 93) dX11_musts_93 rfl ?_
              refine bd_iald (pc := 95) hq dX11_musts_95 (fun v6 hq => ?_)
              refine st_aload_n (pc := 96) dX11_musts_96 rfl ?_
              refine bd_getr (pc := 97) hq dX11_musts_97 fl_11_12_11 rfl (fun v7 hq => ?_)
              refine bd_getr (pc := 100) hq dX11_musts_100 fl_11_87_10 rfl (fun v8 hq => ?_)
              refine st_iload (pc := 103) dX11_musts_103 rfl ?_
              refine bd_iald (pc := 105) hq dX11_musts_105 (fun v9 hq => ?_)
              refine st_isub (pc := 106) dX11_musts_106 ?_
              exact bd_iret (pc := 107) hq dX11_musts_107 rfl
        ·
          refine st_iinc (pc := 108) (lv' := [some (.ref l0), some (.int l1), some (.int l2), some (.int (l3 + Int32.ofInt (1))), some (.int l4), some (.int l5)]) dX11_musts_108 rfl rfl (by decide) rfl ?_
          exact T_X11_musts_111 hd hk24 ih hq
def D_X11_musts_24 (N : Nat) : Nat → mh_H → Nat → Int32 → Int32 → Int32 → Int32 → Option (Int32 × mh_H)
  | 0, _, _, _, _, _, _ => none
  | F + 1, h, l0, l1, l2, l3, l4 =>
    (gR h 11 l0 0).bind fun v1 =>
    (gI h 10 v1 0).bind fun v2 =>
    if v2 ≤ l4 then (kO h 11 l0 <|
    (D_X11_error N h l0 (2 : Int32)).bind fun q3 =>
    some (q3.1, q3.2))
    else (D_X11_musts_39 N (D_X11_musts_24 N F) N h l0 l1 l2 l3 l4 (0 : Int32))
set_option maxHeartbeats 4000000 in
set_option maxRecDepth 100000 in
theorem T_X11_musts_24 {P : mh_E → Prop} {N d : Nat} (hd : 5 ≤ d) {z : (Int32 × mh_H)} : ∀ (F : Nat) (h : mh_H) (l0 : Nat) (l1 : Int32) (l2 : Int32) (l3 : Int32) (l4 : Int32), D_X11_musts_24 N F h l0 l1 l2 l3 l4 = some z → mh_go P d mX11_musts 24 [some (.ref l0), some (.int l1), some (.int l2), some (.int l3), some (.int l4), none] [] h (some (.int z.1)) z.2 := by
  intro F
  induction F with
  | zero => intro h l0 l1 l2 l3 l4 hq; rw [D_X11_musts_24] at hq; cases hq
  | succ F ih =>
    intro h l0 l1 l2 l3 l4 hq
    rw [D_X11_musts_24] at hq
    refine st_iload (pc := 24) dX11_musts_24 rfl ?_
    refine st_aload_n (pc := 26) dX11_musts_26 rfl ?_
    refine bd_getr (pc := 27) hq dX11_musts_27 fl_11_12_11 rfl (fun v1 hq => ?_)
    refine bd_geti (pc := 30) hq dX11_musts_30 fl_11_70_10 rfl (fun v2 hq => ?_)
    refine bd_icmp_ge (pc := 33) (tgt := 123) hq dX11_musts_33 (by decide) (fun _ hq => ?_) (fun _ hq => ?_)
    ·
      refine st_aload_n (pc := 123) dX11_musts_123 rfl ?_
      refine st_iconst (pc := 124) (v := (2 : Int32)) dX11_musts_124 rfl ?_
      obtain ⟨⟨hbq3, hkq3⟩, hq⟩ := mh_oi hq
      obtain ⟨q3, e3, hq⟩ := mh_ob hq
      refine st_invV (pc := 125) (ci := 11) (vs := [.int (2 : Int32)]) (rest := []) (st2 := [.int q3.1]) dX11_musts_125 okX11_error (by decide) hkq3 hbq3 wd_326 wd_328 wp_0 pdX11_error rfl rfl rfl rfl (Nat.le_trans (by decide) hd) (Nat.le_of_ble_eq_true rfl) (T_X11_error (Nat.le_refl _) e3) rfl ?_
      exact bd_iret (pc := 128) hq dX11_musts_128 rfl
    ·
      refine st_iconst (pc := 36) (v := (0 : Int32)) dX11_musts_36 rfl ?_
      refine st_istore (pc := 37) (lv' := [some (.ref l0), some (.int l1), some (.int l2), some (.int l3), some (.int l4), some (.int (0 : Int32))]) dX11_musts_37 rfl (by decide) rfl ?_
      exact T_X11_musts_39 hd ih N _ _ _ _ _ _ _ hq
def D_X11_musts (N : Nat) (h : mh_H) (l0 : Nat) (l1 : Int32) (l2 : Int32) : Option (Int32 × mh_H) :=
  if l1 < 0 then (D_X11_musts_13 N h l0)
  else ((D_X11_within N h l2 (0 : Int32) (2 : Int32)).bind fun q1 =>
  if q1.1 = 0 then (D_X11_musts_13 N q1.2 l0)
  else (D_X11_musts_24 N N q1.2 l0 l1 l2 (0 : Int32) (0 : Int32)))
set_option maxHeartbeats 4000000 in
set_option maxRecDepth 100000 in
theorem T_X11_musts {P : mh_E → Prop} {N d : Nat} (hd : 5 ≤ d) {z : (Int32 × mh_H)} {h : mh_H} {l0 : Nat} {l1 : Int32} {l2 : Int32} (hq : D_X11_musts N h l0 l1 l2 = some z) : mh_go P d mX11_musts 0 [some (.ref l0), some (.int l1), some (.int l2), none, none, none] [] h (some (.int z.1)) z.2 := by
  unfold D_X11_musts at hq
  refine st_iload_n (pc := 0) dX11_musts_0 rfl ?_
  refine bd_if_lt (pc := 1) (tgt := 13) hq dX11_musts_1 (by decide) (fun _ hq => ?_) (fun _ hq => ?_)
  ·
    refine st_lesS (lv' := [some (.ref l0), none, none, none, none, none]) ⟨Or.inr rfl, Or.inl rfl, Or.inl rfl, Or.inr rfl, Or.inr rfl, Or.inr rfl, trivial⟩ ?_
    exact T_X11_musts_13 hd hq
  ·
    refine st_iload_n (pc := 4) dX11_musts_4 rfl ?_
    refine st_iconst (pc := 5) (v := (0 : Int32)) dX11_musts_5 rfl ?_
    refine st_iconst (pc := 6) (v := (2 : Int32)) dX11_musts_6 rfl ?_
    obtain ⟨q1, e1, hq⟩ := mh_ob hq
    refine st_invS (pc := 7) (Y := mX11_within) (vs := [.int l2, .int (0 : Int32), .int (2 : Int32)]) (rest := []) (st2 := [.int q1.1]) dX11_musts_7 okX11_within wd_323 wd_324 pdX11_within rfl rfl rfl rfl (Nat.le_trans (by decide) hd) (Nat.le_of_ble_eq_true rfl) (T_X11_within (Nat.le_refl _) e1) rfl ?_
    refine bd_if_ne (pc := 10) (tgt := 19) hq dX11_musts_10 (by decide) (fun _ hq => ?_) (fun _ hq => ?_)
    ·
      refine st_lesS (lv' := [some (.ref l0), none, none, none, none, none]) ⟨Or.inr rfl, Or.inl rfl, Or.inl rfl, Or.inr rfl, Or.inr rfl, Or.inr rfl, trivial⟩ ?_
      exact T_X11_musts_13 hd hq
    ·
      refine st_iconst (pc := 19) (v := (0 : Int32)) dX11_musts_19 rfl ?_
      refine st_istore_n (pc := 20) (lv' := [some (.ref l0), some (.int l1), some (.int l2), some (.int (0 : Int32)), none, none]) dX11_musts_20 rfl (by decide) rfl ?_
      refine st_iconst (pc := 21) (v := (0 : Int32)) dX11_musts_21 rfl ?_
      refine st_istore (pc := 22) (lv' := [some (.ref l0), some (.int l1), some (.int l2), some (.int (0 : Int32)), some (.int (0 : Int32)), none]) dX11_musts_22 rfl (by decide) rfl ?_
      exact T_X11_musts_24 hd N _ _ _ _ _ _ hq
-- HoleWater$World.side(III)I
theorem dX10_side_0 : decode cX10_side 0 = .ok (.aload_n 0, 1) := by decide +kernel
theorem dX10_side_1 : decode cX10_side 1 = .ok (.getfield 25, 3) := by decide +kernel
theorem dX10_side_4 : decode cX10_side 4 = .ok (.iload_n 2, 1) := by decide +kernel
theorem dX10_side_5 : decode cX10_side 5 = .ok (.iaload, 1) := by decide +kernel
theorem dX10_side_6 : decode cX10_side 6 = .ok (.aload_n 0, 1) := by decide +kernel
theorem dX10_side_7 : decode cX10_side 7 = .ok (.getfield 25, 3) := by decide +kernel
theorem dX10_side_10 : decode cX10_side 10 = .ok (.iload_n 1, 1) := by decide +kernel
theorem dX10_side_11 : decode cX10_side 11 = .ok (.iaload, 1) := by decide +kernel
theorem dX10_side_12 : decode cX10_side 12 = .ok (.isub, 1) := by decide +kernel
theorem dX10_side_13 : decode cX10_side 13 = .ok (.aload_n 0, 1) := by decide +kernel
theorem dX10_side_14 : decode cX10_side 14 = .ok (.getfield 28, 3) := by decide +kernel
theorem dX10_side_17 : decode cX10_side 17 = .ok (.iload_n 3, 1) := by decide +kernel
theorem dX10_side_18 : decode cX10_side 18 = .ok (.iaload, 1) := by decide +kernel
theorem dX10_side_19 : decode cX10_side 19 = .ok (.aload_n 0, 1) := by decide +kernel
theorem dX10_side_20 : decode cX10_side 20 = .ok (.getfield 28, 3) := by decide +kernel
theorem dX10_side_23 : decode cX10_side 23 = .ok (.iload_n 1, 1) := by decide +kernel
theorem dX10_side_24 : decode cX10_side 24 = .ok (.iaload, 1) := by decide +kernel
theorem dX10_side_25 : decode cX10_side 25 = .ok (.isub, 1) := by decide +kernel
theorem dX10_side_26 : decode cX10_side 26 = .ok (.imul, 1) := by decide +kernel
theorem dX10_side_27 : decode cX10_side 27 = .ok (.aload_n 0, 1) := by decide +kernel
theorem dX10_side_28 : decode cX10_side 28 = .ok (.getfield 28, 3) := by decide +kernel
theorem dX10_side_31 : decode cX10_side 31 = .ok (.iload_n 2, 1) := by decide +kernel
theorem dX10_side_32 : decode cX10_side 32 = .ok (.iaload, 1) := by decide +kernel
theorem dX10_side_33 : decode cX10_side 33 = .ok (.aload_n 0, 1) := by decide +kernel
theorem dX10_side_34 : decode cX10_side 34 = .ok (.getfield 28, 3) := by decide +kernel
theorem dX10_side_37 : decode cX10_side 37 = .ok (.iload_n 1, 1) := by decide +kernel
theorem dX10_side_38 : decode cX10_side 38 = .ok (.iaload, 1) := by decide +kernel
theorem dX10_side_39 : decode cX10_side 39 = .ok (.isub, 1) := by decide +kernel
theorem dX10_side_40 : decode cX10_side 40 = .ok (.aload_n 0, 1) := by decide +kernel
theorem dX10_side_41 : decode cX10_side 41 = .ok (.getfield 25, 3) := by decide +kernel
theorem dX10_side_44 : decode cX10_side 44 = .ok (.iload_n 3, 1) := by decide +kernel
theorem dX10_side_45 : decode cX10_side 45 = .ok (.iaload, 1) := by decide +kernel
theorem dX10_side_46 : decode cX10_side 46 = .ok (.aload_n 0, 1) := by decide +kernel
theorem dX10_side_47 : decode cX10_side 47 = .ok (.getfield 25, 3) := by decide +kernel
theorem dX10_side_50 : decode cX10_side 50 = .ok (.iload_n 1, 1) := by decide +kernel
theorem dX10_side_51 : decode cX10_side 51 = .ok (.iaload, 1) := by decide +kernel
theorem dX10_side_52 : decode cX10_side 52 = .ok (.isub, 1) := by decide +kernel
theorem dX10_side_53 : decode cX10_side 53 = .ok (.imul, 1) := by decide +kernel
theorem dX10_side_54 : decode cX10_side 54 = .ok (.isub, 1) := by decide +kernel
theorem dX10_side_55 : decode cX10_side 55 = .ok (.ireturn, 1) := by decide +kernel
def D_X10_side (N : Nat) (h : mh_H) (l0 : Nat) (l1 : Int32) (l2 : Int32) (l3 : Int32) : Option (Int32 × mh_H) :=
  (gR h 10 l0 4).bind fun v1 =>
  (aI h v1 l2).bind fun v2 =>
  (gR h 10 l0 4).bind fun v3 =>
  (aI h v3 l1).bind fun v4 =>
  (gR h 10 l0 5).bind fun v5 =>
  (aI h v5 l3).bind fun v6 =>
  (gR h 10 l0 5).bind fun v7 =>
  (aI h v7 l1).bind fun v8 =>
  (gR h 10 l0 5).bind fun v9 =>
  (aI h v9 l2).bind fun v10 =>
  (gR h 10 l0 5).bind fun v11 =>
  (aI h v11 l1).bind fun v12 =>
  (gR h 10 l0 4).bind fun v13 =>
  (aI h v13 l3).bind fun v14 =>
  (gR h 10 l0 4).bind fun v15 =>
  (aI h v15 l1).bind fun v16 =>
  some (((v2 - v4) * (v6 - v8)) - ((v10 - v12) * (v14 - v16)), h)
set_option maxHeartbeats 4000000 in
set_option maxRecDepth 100000 in
theorem T_X10_side {P : mh_E → Prop} {N d : Nat} (hd : 1 ≤ d) {z : (Int32 × mh_H)} {h : mh_H} {l0 : Nat} {l1 : Int32} {l2 : Int32} {l3 : Int32} (hq : D_X10_side N h l0 l1 l2 l3 = some z) : mh_go P d mX10_side 0 [some (.ref l0), some (.int l1), some (.int l2), some (.int l3)] [] h (some (.int z.1)) z.2 := by
  unfold D_X10_side at hq
  refine st_aload_n (pc := 0) dX10_side_0 rfl ?_
  refine bd_getr (pc := 1) hq dX10_side_1 fl_10_25_10 rfl (fun v1 hq => ?_)
  refine st_iload_n (pc := 4) dX10_side_4 rfl ?_
  refine bd_iald (pc := 5) hq dX10_side_5 (fun v2 hq => ?_)
  refine st_aload_n (pc := 6) dX10_side_6 rfl ?_
  refine bd_getr (pc := 7) hq dX10_side_7 fl_10_25_10 rfl (fun v3 hq => ?_)
  refine st_iload_n (pc := 10) dX10_side_10 rfl ?_
  refine bd_iald (pc := 11) hq dX10_side_11 (fun v4 hq => ?_)
  refine st_isub (pc := 12) dX10_side_12 ?_
  refine st_aload_n (pc := 13) dX10_side_13 rfl ?_
  refine bd_getr (pc := 14) hq dX10_side_14 fl_10_28_10 rfl (fun v5 hq => ?_)
  refine st_iload_n (pc := 17) dX10_side_17 rfl ?_
  refine bd_iald (pc := 18) hq dX10_side_18 (fun v6 hq => ?_)
  refine st_aload_n (pc := 19) dX10_side_19 rfl ?_
  refine bd_getr (pc := 20) hq dX10_side_20 fl_10_28_10 rfl (fun v7 hq => ?_)
  refine st_iload_n (pc := 23) dX10_side_23 rfl ?_
  refine bd_iald (pc := 24) hq dX10_side_24 (fun v8 hq => ?_)
  refine st_isub (pc := 25) dX10_side_25 ?_
  refine st_imul (pc := 26) dX10_side_26 ?_
  refine st_aload_n (pc := 27) dX10_side_27 rfl ?_
  refine bd_getr (pc := 28) hq dX10_side_28 fl_10_28_10 rfl (fun v9 hq => ?_)
  refine st_iload_n (pc := 31) dX10_side_31 rfl ?_
  refine bd_iald (pc := 32) hq dX10_side_32 (fun v10 hq => ?_)
  refine st_aload_n (pc := 33) dX10_side_33 rfl ?_
  refine bd_getr (pc := 34) hq dX10_side_34 fl_10_28_10 rfl (fun v11 hq => ?_)
  refine st_iload_n (pc := 37) dX10_side_37 rfl ?_
  refine bd_iald (pc := 38) hq dX10_side_38 (fun v12 hq => ?_)
  refine st_isub (pc := 39) dX10_side_39 ?_
  refine st_aload_n (pc := 40) dX10_side_40 rfl ?_
  refine bd_getr (pc := 41) hq dX10_side_41 fl_10_25_10 rfl (fun v13 hq => ?_)
  refine st_iload_n (pc := 44) dX10_side_44 rfl ?_
  refine bd_iald (pc := 45) hq dX10_side_45 (fun v14 hq => ?_)
  refine st_aload_n (pc := 46) dX10_side_46 rfl ?_
  refine bd_getr (pc := 47) hq dX10_side_47 fl_10_25_10 rfl (fun v15 hq => ?_)
  refine st_iload_n (pc := 50) dX10_side_50 rfl ?_
  refine bd_iald (pc := 51) hq dX10_side_51 (fun v16 hq => ?_)
  refine st_isub (pc := 52) dX10_side_52 ?_
  refine st_imul (pc := 53) dX10_side_53 ?_
  refine st_isub (pc := 54) dX10_side_54 ?_
  exact bd_iret (pc := 55) hq dX10_side_55 rfl
-- HoleWater$World.parts(IIII)Z
theorem dX10_parts_39 : decode cX10_parts 39 = .ok (.iconst 1, 1) := by decide +kernel
theorem dX10_parts_40 : decode cX10_parts 40 = .ok (.goto 4, 3) := by decide +kernel
theorem dX10_parts_44 : decode cX10_parts 44 = .ok (.ireturn, 1) := by decide +kernel
theorem dX10_parts_29 : decode cX10_parts 29 = .ok (.iload 5, 2) := by decide +kernel
theorem dX10_parts_31 : decode cX10_parts 31 = .ok (.ifCond .le 12, 3) := by decide +kernel
theorem dX10_parts_43 : decode cX10_parts 43 = .ok (.iconst 0, 1) := by decide +kernel
theorem dX10_parts_34 : decode cX10_parts 34 = .ok (.iload 6, 2) := by decide +kernel
theorem dX10_parts_36 : decode cX10_parts 36 = .ok (.ifCond .ge 7, 3) := by decide +kernel
theorem dX10_parts_0 : decode cX10_parts 0 = .ok (.aload_n 0, 1) := by decide +kernel
theorem dX10_parts_1 : decode cX10_parts 1 = .ok (.iload_n 1, 1) := by decide +kernel
theorem dX10_parts_2 : decode cX10_parts 2 = .ok (.iload_n 2, 1) := by decide +kernel
theorem dX10_parts_3 : decode cX10_parts 3 = .ok (.iload_n 3, 1) := by decide +kernel
theorem dX10_parts_4 : decode cX10_parts 4 = .ok (.invokevirtual 136, 3) := by decide +kernel
theorem dX10_parts_7 : decode cX10_parts 7 = .ok (.istore 5, 2) := by decide +kernel
theorem dX10_parts_9 : decode cX10_parts 9 = .ok (.aload_n 0, 1) := by decide +kernel
theorem dX10_parts_10 : decode cX10_parts 10 = .ok (.iload_n 1, 1) := by decide +kernel
theorem dX10_parts_11 : decode cX10_parts 11 = .ok (.iload_n 2, 1) := by decide +kernel
theorem dX10_parts_12 : decode cX10_parts 12 = .ok (.iload 4, 2) := by decide +kernel
theorem dX10_parts_14 : decode cX10_parts 14 = .ok (.invokevirtual 136, 3) := by decide +kernel
theorem dX10_parts_17 : decode cX10_parts 17 = .ok (.istore 6, 2) := by decide +kernel
theorem dX10_parts_19 : decode cX10_parts 19 = .ok (.iload 5, 2) := by decide +kernel
theorem dX10_parts_21 : decode cX10_parts 21 = .ok (.ifCond .ge 8, 3) := by decide +kernel
theorem dX10_parts_24 : decode cX10_parts 24 = .ok (.iload 6, 2) := by decide +kernel
theorem dX10_parts_26 : decode cX10_parts 26 = .ok (.ifCond .gt 13, 3) := by decide +kernel
def D_X10_parts_39 (N : Nat) (h : mh_H) : Option (Int32 × mh_H) :=
  zB (1 : Int32) h
set_option maxHeartbeats 4000000 in
set_option maxRecDepth 100000 in
theorem T_X10_parts_39 {P : mh_E → Prop} {N d : Nat} (hd : 2 ≤ d) {z : (Int32 × mh_H)} {h : mh_H} (hq : D_X10_parts_39 N h = some z) : mh_go P d mX10_parts 39 [none, none, none, none, none, none, none] [] h (some (.int z.1)) z.2 := by
  unfold D_X10_parts_39 at hq
  refine st_iconst (pc := 39) (v := (1 : Int32)) dX10_parts_39 rfl ?_
  refine st_goto (pc := 40) (tgt := 44) dX10_parts_40 (by decide) ?_
  exact bd_zret (pc := 44) hq dX10_parts_44 rfl
def D_X10_parts_29 (N : Nat) (h : mh_H) (l5 : Int32) (l6 : Int32) : Option (Int32 × mh_H) :=
  if l5 ≤ 0 then (zB (0 : Int32) h)
  else (if 0 ≤ l6 then (zB (0 : Int32) h)
  else (D_X10_parts_39 N h))
set_option maxHeartbeats 4000000 in
set_option maxRecDepth 100000 in
theorem T_X10_parts_29 {P : mh_E → Prop} {N d : Nat} (hd : 2 ≤ d) {z : (Int32 × mh_H)} {h : mh_H} {l5 : Int32} {l6 : Int32} (hq : D_X10_parts_29 N h l5 l6 = some z) : mh_go P d mX10_parts 29 [none, none, none, none, none, some (.int l5), some (.int l6)] [] h (some (.int z.1)) z.2 := by
  unfold D_X10_parts_29 at hq
  refine st_iload (pc := 29) dX10_parts_29 rfl ?_
  refine bd_if_le (pc := 31) (tgt := 43) hq dX10_parts_31 (by decide) (fun _ hq => ?_) (fun _ hq => ?_)
  ·
    refine st_iconst (pc := 43) (v := (0 : Int32)) dX10_parts_43 rfl ?_
    exact bd_zret (pc := 44) hq dX10_parts_44 rfl
  ·
    refine st_iload (pc := 34) dX10_parts_34 rfl ?_
    refine bd_if_ge (pc := 36) (tgt := 43) hq dX10_parts_36 (by decide) (fun _ hq => ?_) (fun _ hq => ?_)
    ·
      refine st_iconst (pc := 43) (v := (0 : Int32)) dX10_parts_43 rfl ?_
      exact bd_zret (pc := 44) hq dX10_parts_44 rfl
    ·
      refine st_lesS (lv' := [none, none, none, none, none, none, none]) ⟨Or.inr rfl, Or.inr rfl, Or.inr rfl, Or.inr rfl, Or.inr rfl, Or.inl rfl, Or.inl rfl, trivial⟩ ?_
      exact T_X10_parts_39 hd hq
def D_X10_parts (N : Nat) (h : mh_H) (l0 : Nat) (l1 : Int32) (l2 : Int32) (l3 : Int32) (l4 : Int32) : Option (Int32 × mh_H) :=
  kO h 10 l0 <|
  (D_X10_side N h l0 l1 l2 l3).bind fun q1 =>
  kO q1.2 10 l0 <|
  (D_X10_side N q1.2 l0 l1 l2 l4).bind fun q2 =>
  if 0 ≤ q1.1 then (D_X10_parts_29 N q2.2 q1.1 q2.1)
  else (if 0 < q2.1 then (D_X10_parts_39 N q2.2)
  else (D_X10_parts_29 N q2.2 q1.1 q2.1))
set_option maxHeartbeats 4000000 in
set_option maxRecDepth 100000 in
theorem T_X10_parts {P : mh_E → Prop} {N d : Nat} (hd : 2 ≤ d) {z : (Int32 × mh_H)} {h : mh_H} {l0 : Nat} {l1 : Int32} {l2 : Int32} {l3 : Int32} {l4 : Int32} (hq : D_X10_parts N h l0 l1 l2 l3 l4 = some z) : mh_go P d mX10_parts 0 [some (.ref l0), some (.int l1), some (.int l2), some (.int l3), some (.int l4), none, none] [] h (some (.int z.1)) z.2 := by
  unfold D_X10_parts at hq
  refine st_aload_n (pc := 0) dX10_parts_0 rfl ?_
  refine st_iload_n (pc := 1) dX10_parts_1 rfl ?_
  refine st_iload_n (pc := 2) dX10_parts_2 rfl ?_
  refine st_iload_n (pc := 3) dX10_parts_3 rfl ?_
  obtain ⟨⟨hbq1, hkq1⟩, hq⟩ := mh_oi hq
  obtain ⟨q1, e1, hq⟩ := mh_ob hq
  refine st_invV (pc := 4) (ci := 10) (vs := [.int l1, .int l2, .int l3]) (rest := []) (st2 := [.int q1.1]) dX10_parts_4 okX10_side (by decide) hkq1 hbq1 wd_939 wd_941 wp_29 pdX10_side rfl rfl rfl rfl (Nat.le_trans (by decide) hd) (Nat.le_of_ble_eq_true rfl) (T_X10_side (Nat.le_refl _) e1) rfl ?_
  refine st_istore (pc := 7) (lv' := [some (.ref l0), some (.int l1), some (.int l2), some (.int l3), some (.int l4), some (.int q1.1), none]) dX10_parts_7 rfl (by decide) rfl ?_
  refine st_aload_n (pc := 9) dX10_parts_9 rfl ?_
  refine st_iload_n (pc := 10) dX10_parts_10 rfl ?_
  refine st_iload_n (pc := 11) dX10_parts_11 rfl ?_
  refine st_iload (pc := 12) dX10_parts_12 rfl ?_
  obtain ⟨⟨hbq2, hkq2⟩, hq⟩ := mh_oi hq
  obtain ⟨q2, e2, hq⟩ := mh_ob hq
  refine st_invV (pc := 14) (ci := 10) (vs := [.int l1, .int l2, .int l4]) (rest := []) (st2 := [.int q2.1]) dX10_parts_14 okX10_side (by decide) hkq2 hbq2 wd_939 wd_941 wp_29 pdX10_side rfl rfl rfl rfl (Nat.le_trans (by decide) hd) (Nat.le_of_ble_eq_true rfl) (T_X10_side (Nat.le_refl _) e2) rfl ?_
  refine st_istore (pc := 17) (lv' := [some (.ref l0), some (.int l1), some (.int l2), some (.int l3), some (.int l4), some (.int q1.1), some (.int q2.1)]) dX10_parts_17 rfl (by decide) rfl ?_
  refine st_iload (pc := 19) dX10_parts_19 rfl ?_
  refine bd_if_ge (pc := 21) (tgt := 29) hq dX10_parts_21 (by decide) (fun _ hq => ?_) (fun _ hq => ?_)
  ·
    refine st_lesS (lv' := [none, none, none, none, none, some (.int q1.1), some (.int q2.1)]) ⟨Or.inl rfl, Or.inl rfl, Or.inl rfl, Or.inl rfl, Or.inl rfl, Or.inr rfl, Or.inr rfl, trivial⟩ ?_
    exact T_X10_parts_29 hd hq
  ·
    refine st_iload (pc := 24) dX10_parts_24 rfl ?_
    refine bd_if_gt (pc := 26) (tgt := 39) hq dX10_parts_26 (by decide) (fun _ hq => ?_) (fun _ hq => ?_)
    ·
      refine st_lesS (lv' := [none, none, none, none, none, none, none]) ⟨Or.inl rfl, Or.inl rfl, Or.inl rfl, Or.inl rfl, Or.inl rfl, Or.inl rfl, Or.inl rfl, trivial⟩ ?_
      exact T_X10_parts_39 hd hq
    ·
      refine st_lesS (lv' := [none, none, none, none, none, some (.int q1.1), some (.int q2.1)]) ⟨Or.inl rfl, Or.inl rfl, Or.inl rfl, Or.inl rfl, Or.inl rfl, Or.inr rfl, Or.inr rfl, trivial⟩ ?_
      exact T_X10_parts_29 hd hq
-- HoleWater.crosses(IIII)I
theorem dX11_crosses_40 : decode cX11_crosses 40 = .ok (.aload_n 0, 1) := by decide +kernel
theorem dX11_crosses_41 : decode cX11_crosses 41 = .ok (.iconst 1, 1) := by decide +kernel
theorem dX11_crosses_42 : decode cX11_crosses 42 = .ok (.invokevirtual 66, 3) := by decide +kernel
theorem dX11_crosses_45 : decode cX11_crosses 45 = .ok (.ireturn, 1) := by decide +kernel
theorem dX11_crosses_56 : decode cX11_crosses 56 = .ok (.aload_n 0, 1) := by decide +kernel
theorem dX11_crosses_57 : decode cX11_crosses 57 = .ok (.iconst 5, 1) := by decide +kernel
theorem dX11_crosses_58 : decode cX11_crosses 58 = .ok (.invokevirtual 66, 3) := by decide +kernel
theorem dX11_crosses_61 : decode cX11_crosses 61 = .ok (.ireturn, 1) := by decide +kernel
theorem dX11_crosses_126 : decode cX11_crosses 126 = .ok (.istore 8, 2) := by decide +kernel
theorem dX11_crosses_128 : decode cX11_crosses 128 = .ok (.iload 8, 2) := by decide +kernel
theorem dX11_crosses_130 : decode cX11_crosses 130 = .ok (.ifCond .eq 37, 3) := by decide +kernel
theorem dX11_crosses_167 : decode cX11_crosses 167 = .ok (.iconst 0, 1) := by decide +kernel
theorem dX11_crosses_168 : decode cX11_crosses 168 = .ok (.ireturn, 1) := by decide +kernel
theorem dX11_crosses_133 : decode cX11_crosses 133 = .ok (.aload_n 0, 1) := by decide +kernel
theorem dX11_crosses_134 : decode cX11_crosses 134 = .ok (.getfield 12, 3) := by decide +kernel
theorem dX11_crosses_137 : decode cX11_crosses 137 = .ok (.iload_n 1, 1) := by decide +kernel
theorem dX11_crosses_138 : decode cX11_crosses 138 = .ok (.iload_n 2, 1) := by decide +kernel
theorem dX11_crosses_139 : decode cX11_crosses 139 = .ok (.iload_n 3, 1) := by decide +kernel
theorem dX11_crosses_140 : decode cX11_crosses 140 = .ok (.iload 4, 2) := by decide +kernel
theorem dX11_crosses_142 : decode cX11_crosses 142 = .ok (.invokevirtual 308, 3) := by decide +kernel
theorem dX11_crosses_145 : decode cX11_crosses 145 = .ok (.ifCond .eq 22, 3) := by decide +kernel
theorem dX11_crosses_148 : decode cX11_crosses 148 = .ok (.aload_n 0, 1) := by decide +kernel
theorem dX11_crosses_149 : decode cX11_crosses 149 = .ok (.getfield 12, 3) := by decide +kernel
theorem dX11_crosses_152 : decode cX11_crosses 152 = .ok (.iload_n 3, 1) := by decide +kernel
theorem dX11_crosses_153 : decode cX11_crosses 153 = .ok (.iload 4, 2) := by decide +kernel
theorem dX11_crosses_155 : decode cX11_crosses 155 = .ok (.iload_n 1, 1) := by decide +kernel
theorem dX11_crosses_156 : decode cX11_crosses 156 = .ok (.iload_n 2, 1) := by decide +kernel
theorem dX11_crosses_157 : decode cX11_crosses 157 = .ok (.invokevirtual 308, 3) := by decide +kernel
theorem dX11_crosses_160 : decode cX11_crosses 160 = .ok (.ifCond .eq 7, 3) := by decide +kernel
theorem dX11_crosses_163 : decode cX11_crosses 163 = .ok (.iconst 1, 1) := by decide +kernel
theorem dX11_crosses_164 : decode cX11_crosses 164 = .ok (.goto 4, 3) := by decide +kernel
theorem dX11_crosses_125 : decode cX11_crosses 125 = .ok (.iconst 0, 1) := by decide +kernel
theorem dX11_crosses_0 : decode cX11_crosses 0 = .ok (.aload_n 0, 1) := by decide +kernel
theorem dX11_crosses_1 : decode cX11_crosses 1 = .ok (.iload_n 1, 1) := by decide +kernel
theorem dX11_crosses_2 : decode cX11_crosses 2 = .ok (.iload_n 2, 1) := by decide +kernel
theorem dX11_crosses_3 : decode cX11_crosses 3 = .ok (.invokevirtual 280, 3) := by decide +kernel
theorem dX11_crosses_6 : decode cX11_crosses 6 = .ok (.istore 5, 2) := by decide +kernel
theorem dX11_crosses_8 : decode cX11_crosses 8 = .ok (.aload_n 0, 1) := by decide +kernel
theorem dX11_crosses_9 : decode cX11_crosses 9 = .ok (.iload_n 3, 1) := by decide +kernel
theorem dX11_crosses_10 : decode cX11_crosses 10 = .ok (.iload 4, 2) := by decide +kernel
theorem dX11_crosses_12 : decode cX11_crosses 12 = .ok (.invokevirtual 280, 3) := by decide +kernel
theorem dX11_crosses_15 : decode cX11_crosses 15 = .ok (.istore 6, 2) := by decide +kernel
theorem dX11_crosses_17 : decode cX11_crosses 17 = .ok (.iload 5, 2) := by decide +kernel
theorem dX11_crosses_19 : decode cX11_crosses 19 = .ok (.iconst 1, 1) := by decide +kernel
theorem dX11_crosses_20 : decode cX11_crosses 20 = .ok (.if_icmp .eq 20, 3) := by decide +kernel
theorem dX11_crosses_23 : decode cX11_crosses 23 = .ok (.iload 6, 2) := by decide +kernel
theorem dX11_crosses_25 : decode cX11_crosses 25 = .ok (.iconst 1, 1) := by decide +kernel
theorem dX11_crosses_26 : decode cX11_crosses 26 = .ok (.if_icmp .eq 14, 3) := by decide +kernel
theorem dX11_crosses_29 : decode cX11_crosses 29 = .ok (.iload_n 1, 1) := by decide +kernel
theorem dX11_crosses_30 : decode cX11_crosses 30 = .ok (.iload_n 3, 1) := by decide +kernel
theorem dX11_crosses_31 : decode cX11_crosses 31 = .ok (.if_icmp .eq 9, 3) := by decide +kernel
theorem dX11_crosses_34 : decode cX11_crosses 34 = .ok (.iload_n 2, 1) := by decide +kernel
theorem dX11_crosses_35 : decode cX11_crosses 35 = .ok (.iload 4, 2) := by decide +kernel
theorem dX11_crosses_37 : decode cX11_crosses 37 = .ok (.if_icmp .ne 9, 3) := by decide +kernel
theorem dX11_crosses_46 : decode cX11_crosses 46 = .ok (.iload 5, 2) := by decide +kernel
theorem dX11_crosses_48 : decode cX11_crosses 48 = .ok (.ifCond .ne 8, 3) := by decide +kernel
theorem dX11_crosses_51 : decode cX11_crosses 51 = .ok (.iload 6, 2) := by decide +kernel
theorem dX11_crosses_53 : decode cX11_crosses 53 = .ok (.ifCond .eq 9, 3) := by decide +kernel
theorem dX11_crosses_62 : decode cX11_crosses 62 = .ok (.aload_n 0, 1) := by decide +kernel
theorem dX11_crosses_63 : decode cX11_crosses 63 = .ok (.getfield 12, 3) := by decide +kernel
theorem dX11_crosses_66 : decode cX11_crosses 66 = .ok (.getfield 196, 3) := by decide +kernel
theorem dX11_crosses_69 : decode cX11_crosses 69 = .ok (.astore 7, 2) := by decide +kernel
theorem dX11_crosses_71 : decode cX11_crosses 71 = .ok (.aload 7, 2) := by decide +kernel
theorem dX11_crosses_73 : decode cX11_crosses 73 = .ok (.iload_n 1, 1) := by decide +kernel
theorem dX11_crosses_74 : decode cX11_crosses 74 = .ok (.iload_n 2, 1) := by decide +kernel
theorem dX11_crosses_75 : decode cX11_crosses 75 = .ok (.iconst 0, 1) := by decide +kernel
theorem dX11_crosses_76 : decode cX11_crosses 76 = .ok (.invokevirtual 283, 3) := by decide +kernel
theorem dX11_crosses_79 : decode cX11_crosses 79 = .ok (.iconst 3, 1) := by decide +kernel
theorem dX11_crosses_80 : decode cX11_crosses 80 = .ok (.if_icmp .ne 45, 3) := by decide +kernel
theorem dX11_crosses_83 : decode cX11_crosses 83 = .ok (.aload 7, 2) := by decide +kernel
theorem dX11_crosses_85 : decode cX11_crosses 85 = .ok (.iload_n 3, 1) := by decide +kernel
theorem dX11_crosses_86 : decode cX11_crosses 86 = .ok (.iload 4, 2) := by decide +kernel
theorem dX11_crosses_88 : decode cX11_crosses 88 = .ok (.iconst 0, 1) := by decide +kernel
theorem dX11_crosses_89 : decode cX11_crosses 89 = .ok (.invokevirtual 283, 3) := by decide +kernel
theorem dX11_crosses_92 : decode cX11_crosses 92 = .ok (.iconst 3, 1) := by decide +kernel
theorem dX11_crosses_93 : decode cX11_crosses 93 = .ok (.if_icmp .ne 32, 3) := by decide +kernel
theorem dX11_crosses_96 : decode cX11_crosses 96 = .ok (.aload 7, 2) := by decide +kernel
theorem dX11_crosses_98 : decode cX11_crosses 98 = .ok (.iload_n 1, 1) := by decide +kernel
theorem dX11_crosses_99 : decode cX11_crosses 99 = .ok (.iload 4, 2) := by decide +kernel
theorem dX11_crosses_101 : decode cX11_crosses 101 = .ok (.iconst 0, 1) := by decide +kernel
theorem dX11_crosses_102 : decode cX11_crosses 102 = .ok (.invokevirtual 283, 3) := by decide +kernel
theorem dX11_crosses_105 : decode cX11_crosses 105 = .ok (.iconst 2, 1) := by decide +kernel
theorem dX11_crosses_106 : decode cX11_crosses 106 = .ok (.if_icmp .ge 19, 3) := by decide +kernel
theorem dX11_crosses_109 : decode cX11_crosses 109 = .ok (.aload 7, 2) := by decide +kernel
theorem dX11_crosses_111 : decode cX11_crosses 111 = .ok (.iload_n 3, 1) := by decide +kernel
theorem dX11_crosses_112 : decode cX11_crosses 112 = .ok (.iload_n 2, 1) := by decide +kernel
theorem dX11_crosses_113 : decode cX11_crosses 113 = .ok (.iconst 0, 1) := by decide +kernel
theorem dX11_crosses_114 : decode cX11_crosses 114 = .ok (.invokevirtual 283, 3) := by decide +kernel
theorem dX11_crosses_117 : decode cX11_crosses 117 = .ok (.iconst 2, 1) := by decide +kernel
theorem dX11_crosses_118 : decode cX11_crosses 118 = .ok (.if_icmp .ge 7, 3) := by decide +kernel
theorem dX11_crosses_121 : decode cX11_crosses 121 = .ok (.iconst 1, 1) := by decide +kernel
theorem dX11_crosses_122 : decode cX11_crosses 122 = .ok (.goto 4, 3) := by decide +kernel
def D_X11_crosses_40 (N : Nat) (h : mh_H) (l0 : Nat) : Option (Int32 × mh_H) :=
  kO h 11 l0 <|
  (D_X11_error N h l0 (1 : Int32)).bind fun q1 =>
  some (q1.1, q1.2)
set_option maxHeartbeats 4000000 in
set_option maxRecDepth 100000 in
theorem T_X11_crosses_40 {P : mh_E → Prop} {N d : Nat} (hd : 4 ≤ d) {z : (Int32 × mh_H)} {h : mh_H} {l0 : Nat} (hq : D_X11_crosses_40 N h l0 = some z) : mh_go P d mX11_crosses 40 [some (.ref l0), none, none, none, none, none, none, none, none] [] h (some (.int z.1)) z.2 := by
  unfold D_X11_crosses_40 at hq
  refine st_aload_n (pc := 40) dX11_crosses_40 rfl ?_
  refine st_iconst (pc := 41) (v := (1 : Int32)) dX11_crosses_41 rfl ?_
  obtain ⟨⟨hbq1, hkq1⟩, hq⟩ := mh_oi hq
  obtain ⟨q1, e1, hq⟩ := mh_ob hq
  refine st_invV (pc := 42) (ci := 11) (vs := [.int (1 : Int32)]) (rest := []) (st2 := [.int q1.1]) dX11_crosses_42 okX11_error (by decide) hkq1 hbq1 wd_326 wd_328 wp_0 pdX11_error rfl rfl rfl rfl (Nat.le_trans (by decide) hd) (Nat.le_of_ble_eq_true rfl) (T_X11_error (Nat.le_refl _) e1) rfl ?_
  exact bd_iret (pc := 45) hq dX11_crosses_45 rfl
def D_X11_crosses_56 (N : Nat) (h : mh_H) (l0 : Nat) : Option (Int32 × mh_H) :=
  kO h 11 l0 <|
  (D_X11_error N h l0 (5 : Int32)).bind fun q1 =>
  some (q1.1, q1.2)
set_option maxHeartbeats 4000000 in
set_option maxRecDepth 100000 in
theorem T_X11_crosses_56 {P : mh_E → Prop} {N d : Nat} (hd : 4 ≤ d) {z : (Int32 × mh_H)} {h : mh_H} {l0 : Nat} (hq : D_X11_crosses_56 N h l0 = some z) : mh_go P d mX11_crosses 56 [some (.ref l0), none, none, none, none, none, none, none, none] [] h (some (.int z.1)) z.2 := by
  unfold D_X11_crosses_56 at hq
  refine st_aload_n (pc := 56) dX11_crosses_56 rfl ?_
  refine st_iconst (pc := 57) (v := (5 : Int32)) dX11_crosses_57 rfl ?_
  obtain ⟨⟨hbq1, hkq1⟩, hq⟩ := mh_oi hq
  obtain ⟨q1, e1, hq⟩ := mh_ob hq
  refine st_invV (pc := 58) (ci := 11) (vs := [.int (5 : Int32)]) (rest := []) (st2 := [.int q1.1]) dX11_crosses_58 okX11_error (by decide) hkq1 hbq1 wd_326 wd_328 wp_0 pdX11_error rfl rfl rfl rfl (Nat.le_trans (by decide) hd) (Nat.le_of_ble_eq_true rfl) (T_X11_error (Nat.le_refl _) e1) rfl ?_
  exact bd_iret (pc := 61) hq dX11_crosses_61 rfl
def D_X11_crosses_126 (N : Nat) (h : mh_H) (l0 : Nat) (l1 : Int32) (l2 : Int32) (l3 : Int32) (l4 : Int32) (s0 : Int32) : Option (Int32 × mh_H) :=
  if s0 = 0 then (some ((0 : Int32), h))
  else ((gR h 11 l0 0).bind fun v1 =>
  kO h 10 v1 <|
  (D_X10_parts N h v1 l1 l2 l3 l4).bind fun q2 =>
  if q2.1 = 0 then (some ((0 : Int32), q2.2))
  else ((gR q2.2 11 l0 0).bind fun v3 =>
  kO q2.2 10 v3 <|
  (D_X10_parts N q2.2 v3 l3 l4 l1 l2).bind fun q4 =>
  if q4.1 = 0 then (some ((0 : Int32), q4.2))
  else (some ((1 : Int32), q4.2))))
set_option maxHeartbeats 4000000 in
set_option maxRecDepth 100000 in
theorem T_X11_crosses_126 {P : mh_E → Prop} {N d : Nat} (hd : 4 ≤ d) {z : (Int32 × mh_H)} {h : mh_H} {l0 : Nat} {l1 : Int32} {l2 : Int32} {l3 : Int32} {l4 : Int32} {s0 : Int32} (hq : D_X11_crosses_126 N h l0 l1 l2 l3 l4 s0 = some z) : mh_go P d mX11_crosses 126 [some (.ref l0), some (.int l1), some (.int l2), some (.int l3), some (.int l4), none, none, none, none] [.int s0] h (some (.int z.1)) z.2 := by
  unfold D_X11_crosses_126 at hq
  refine st_istore (pc := 126) (lv' := [some (.ref l0), some (.int l1), some (.int l2), some (.int l3), some (.int l4), none, none, none, some (.int s0)]) dX11_crosses_126 rfl (by decide) rfl ?_
  refine st_iload (pc := 128) dX11_crosses_128 rfl ?_
  refine bd_if_eq (pc := 130) (tgt := 167) hq dX11_crosses_130 (by decide) (fun _ hq => ?_) (fun _ hq => ?_)
  ·
    refine st_iconst (pc := 167) (v := (0 : Int32)) dX11_crosses_167 rfl ?_
    exact bd_iret (pc := 168) hq dX11_crosses_168 rfl
  ·
    refine st_aload_n (pc := 133) dX11_crosses_133 rfl ?_
    refine bd_getr (pc := 134) hq dX11_crosses_134 fl_11_12_11 rfl (fun v1 hq => ?_)
    refine st_iload_n (pc := 137) dX11_crosses_137 rfl ?_
    refine st_iload_n (pc := 138) dX11_crosses_138 rfl ?_
    refine st_iload_n (pc := 139) dX11_crosses_139 rfl ?_
    refine st_iload (pc := 140) dX11_crosses_140 rfl ?_
    obtain ⟨⟨hbq2, hkq2⟩, hq⟩ := mh_oi hq
    obtain ⟨q2, e2, hq⟩ := mh_ob hq
    refine st_invV (pc := 142) (ci := 10) (vs := [.int l1, .int l2, .int l3, .int l4]) (rest := []) (st2 := [.int q2.1]) dX11_crosses_142 okX10_parts (by decide) hkq2 hbq2 wd_935 wd_936 wd_937 pdX10_parts rfl rfl rfl rfl (Nat.le_trans (by decide) hd) (Nat.le_of_ble_eq_true rfl) (T_X10_parts (Nat.le_refl _) e2) rfl ?_
    refine bd_if_eq (pc := 145) (tgt := 167) hq dX11_crosses_145 (by decide) (fun _ hq => ?_) (fun _ hq => ?_)
    ·
      refine st_iconst (pc := 167) (v := (0 : Int32)) dX11_crosses_167 rfl ?_
      exact bd_iret (pc := 168) hq dX11_crosses_168 rfl
    ·
      refine st_aload_n (pc := 148) dX11_crosses_148 rfl ?_
      refine bd_getr (pc := 149) hq dX11_crosses_149 fl_11_12_11 rfl (fun v3 hq => ?_)
      refine st_iload_n (pc := 152) dX11_crosses_152 rfl ?_
      refine st_iload (pc := 153) dX11_crosses_153 rfl ?_
      refine st_iload_n (pc := 155) dX11_crosses_155 rfl ?_
      refine st_iload_n (pc := 156) dX11_crosses_156 rfl ?_
      obtain ⟨⟨hbq4, hkq4⟩, hq⟩ := mh_oi hq
      obtain ⟨q4, e4, hq⟩ := mh_ob hq
      refine st_invV (pc := 157) (ci := 10) (vs := [.int l3, .int l4, .int l1, .int l2]) (rest := []) (st2 := [.int q4.1]) dX11_crosses_157 okX10_parts (by decide) hkq4 hbq4 wd_935 wd_936 wd_937 pdX10_parts rfl rfl rfl rfl (Nat.le_trans (by decide) hd) (Nat.le_of_ble_eq_true rfl) (T_X10_parts (Nat.le_refl _) e4) rfl ?_
      refine bd_if_eq (pc := 160) (tgt := 167) hq dX11_crosses_160 (by decide) (fun _ hq => ?_) (fun _ hq => ?_)
      ·
        refine st_iconst (pc := 167) (v := (0 : Int32)) dX11_crosses_167 rfl ?_
        exact bd_iret (pc := 168) hq dX11_crosses_168 rfl
      ·
        refine st_iconst (pc := 163) (v := (1 : Int32)) dX11_crosses_163 rfl ?_
        refine st_goto (pc := 164) (tgt := 168) dX11_crosses_164 (by decide) ?_
        exact bd_iret (pc := 168) hq dX11_crosses_168 rfl
def D_X11_crosses_125 (N : Nat) (h : mh_H) (l0 : Nat) (l1 : Int32) (l2 : Int32) (l3 : Int32) (l4 : Int32) : Option (Int32 × mh_H) :=
  D_X11_crosses_126 N h l0 l1 l2 l3 l4 (0 : Int32)
set_option maxHeartbeats 4000000 in
set_option maxRecDepth 100000 in
theorem T_X11_crosses_125 {P : mh_E → Prop} {N d : Nat} (hd : 4 ≤ d) {z : (Int32 × mh_H)} {h : mh_H} {l0 : Nat} {l1 : Int32} {l2 : Int32} {l3 : Int32} {l4 : Int32} (hq : D_X11_crosses_125 N h l0 l1 l2 l3 l4 = some z) : mh_go P d mX11_crosses 125 [some (.ref l0), some (.int l1), some (.int l2), some (.int l3), some (.int l4), none, none, none, none] [] h (some (.int z.1)) z.2 := by
  unfold D_X11_crosses_125 at hq
  refine st_iconst (pc := 125) (v := (0 : Int32)) dX11_crosses_125 rfl ?_
  exact T_X11_crosses_126 hd hq
def D_X11_crosses (N : Nat) (h : mh_H) (l0 : Nat) (l1 : Int32) (l2 : Int32) (l3 : Int32) (l4 : Int32) : Option (Int32 × mh_H) :=
  kO h 11 l0 <|
  (D_X11_pairError N h l0 l1 l2).bind fun q1 =>
  kO q1.2 11 l0 <|
  (D_X11_pairError N q1.2 l0 l3 l4).bind fun q2 =>
  if q1.1 = (1 : Int32) then (D_X11_crosses_40 N q2.2 l0)
  else (if q2.1 = (1 : Int32) then (D_X11_crosses_40 N q2.2 l0)
  else (if l1 = l3 then (D_X11_crosses_40 N q2.2 l0)
  else (if l2 = l4 then (D_X11_crosses_40 N q2.2 l0)
  else (if q1.1 = 0 then (if q2.1 = 0 then ((gR q2.2 11 l0 0).bind fun v3 =>
  (gR q2.2 10 v3 8).bind fun v4 =>
  kO q2.2 1 v4 <|
  (D_X1_said N q2.2 v4 l1 l2 (0 : Int32)).bind fun q5 =>
  if q5.1 = (3 : Int32) then (kO q5.2 1 v4 <|
  (D_X1_said N q5.2 v4 l3 l4 (0 : Int32)).bind fun q6 =>
  if q6.1 = (3 : Int32) then (kO q6.2 1 v4 <|
  (D_X1_said N q6.2 v4 l1 l4 (0 : Int32)).bind fun q7 =>
  if (2 : Int32) ≤ q7.1 then (D_X11_crosses_125 N q7.2 l0 l1 l2 l3 l4)
  else (kO q7.2 1 v4 <|
  (D_X1_said N q7.2 v4 l3 l2 (0 : Int32)).bind fun q8 =>
  if (2 : Int32) ≤ q8.1 then (D_X11_crosses_125 N q8.2 l0 l1 l2 l3 l4)
  else (D_X11_crosses_126 N q8.2 l0 l1 l2 l3 l4 (1 : Int32))))
  else (D_X11_crosses_125 N q6.2 l0 l1 l2 l3 l4))
  else (D_X11_crosses_125 N q5.2 l0 l1 l2 l3 l4))
  else (D_X11_crosses_56 N q2.2 l0))
  else (D_X11_crosses_56 N q2.2 l0)))))
set_option maxHeartbeats 4000000 in
set_option maxRecDepth 100000 in
theorem T_X11_crosses {P : mh_E → Prop} {N d : Nat} (hd : 4 ≤ d) {z : (Int32 × mh_H)} {h : mh_H} {l0 : Nat} {l1 : Int32} {l2 : Int32} {l3 : Int32} {l4 : Int32} (hq : D_X11_crosses N h l0 l1 l2 l3 l4 = some z) : mh_go P d mX11_crosses 0 [some (.ref l0), some (.int l1), some (.int l2), some (.int l3), some (.int l4), none, none, none, none] [] h (some (.int z.1)) z.2 := by
  unfold D_X11_crosses at hq
  refine st_aload_n (pc := 0) dX11_crosses_0 rfl ?_
  refine st_iload_n (pc := 1) dX11_crosses_1 rfl ?_
  refine st_iload_n (pc := 2) dX11_crosses_2 rfl ?_
  obtain ⟨⟨hbq1, hkq1⟩, hq⟩ := mh_oi hq
  obtain ⟨q1, e1, hq⟩ := mh_ob hq
  refine st_invV (pc := 3) (ci := 11) (vs := [.int l1, .int l2]) (rest := []) (st2 := [.int q1.1]) dX11_crosses_3 okX11_pairError (by decide) hkq1 hbq1 wd_875 wd_877 wp_25 pdX11_pairError rfl rfl rfl rfl (Nat.le_trans (by decide) hd) (Nat.le_of_ble_eq_true rfl) (T_X11_pairError (Nat.le_refl _) e1) rfl ?_
  refine st_istore (pc := 6) (lv' := [some (.ref l0), some (.int l1), some (.int l2), some (.int l3), some (.int l4), some (.int q1.1), none, none, none]) dX11_crosses_6 rfl (by decide) rfl ?_
  refine st_aload_n (pc := 8) dX11_crosses_8 rfl ?_
  refine st_iload_n (pc := 9) dX11_crosses_9 rfl ?_
  refine st_iload (pc := 10) dX11_crosses_10 rfl ?_
  obtain ⟨⟨hbq2, hkq2⟩, hq⟩ := mh_oi hq
  obtain ⟨q2, e2, hq⟩ := mh_ob hq
  refine st_invV (pc := 12) (ci := 11) (vs := [.int l3, .int l4]) (rest := []) (st2 := [.int q2.1]) dX11_crosses_12 okX11_pairError (by decide) hkq2 hbq2 wd_875 wd_877 wp_25 pdX11_pairError rfl rfl rfl rfl (Nat.le_trans (by decide) hd) (Nat.le_of_ble_eq_true rfl) (T_X11_pairError (Nat.le_refl _) e2) rfl ?_
  refine st_istore (pc := 15) (lv' := [some (.ref l0), some (.int l1), some (.int l2), some (.int l3), some (.int l4), some (.int q1.1), some (.int q2.1), none, none]) dX11_crosses_15 rfl (by decide) rfl ?_
  refine st_iload (pc := 17) dX11_crosses_17 rfl ?_
  refine st_iconst (pc := 19) (v := (1 : Int32)) dX11_crosses_19 rfl ?_
  refine bd_icmp_eq (pc := 20) (tgt := 40) hq dX11_crosses_20 (by decide) (fun _ hq => ?_) (fun _ hq => ?_)
  ·
    refine st_lesS (lv' := [some (.ref l0), none, none, none, none, none, none, none, none]) ⟨Or.inr rfl, Or.inl rfl, Or.inl rfl, Or.inl rfl, Or.inl rfl, Or.inl rfl, Or.inl rfl, Or.inr rfl, Or.inr rfl, trivial⟩ ?_
    exact T_X11_crosses_40 hd hq
  ·
    refine st_iload (pc := 23) dX11_crosses_23 rfl ?_
    refine st_iconst (pc := 25) (v := (1 : Int32)) dX11_crosses_25 rfl ?_
    refine bd_icmp_eq (pc := 26) (tgt := 40) hq dX11_crosses_26 (by decide) (fun _ hq => ?_) (fun _ hq => ?_)
    ·
      refine st_lesS (lv' := [some (.ref l0), none, none, none, none, none, none, none, none]) ⟨Or.inr rfl, Or.inl rfl, Or.inl rfl, Or.inl rfl, Or.inl rfl, Or.inl rfl, Or.inl rfl, Or.inr rfl, Or.inr rfl, trivial⟩ ?_
      exact T_X11_crosses_40 hd hq
    ·
      refine st_iload_n (pc := 29) dX11_crosses_29 rfl ?_
      refine st_iload_n (pc := 30) dX11_crosses_30 rfl ?_
      refine bd_icmp_eq (pc := 31) (tgt := 40) hq dX11_crosses_31 (by decide) (fun _ hq => ?_) (fun _ hq => ?_)
      ·
        refine st_lesS (lv' := [some (.ref l0), none, none, none, none, none, none, none, none]) ⟨Or.inr rfl, Or.inl rfl, Or.inl rfl, Or.inl rfl, Or.inl rfl, Or.inl rfl, Or.inl rfl, Or.inr rfl, Or.inr rfl, trivial⟩ ?_
        exact T_X11_crosses_40 hd hq
      ·
        refine st_iload_n (pc := 34) dX11_crosses_34 rfl ?_
        refine st_iload (pc := 35) dX11_crosses_35 rfl ?_
        refine bd_icmp_ne (pc := 37) (tgt := 46) hq dX11_crosses_37 (by decide) (fun _ hq => ?_) (fun _ hq => ?_)
        ·
          refine st_lesS (lv' := [some (.ref l0), none, none, none, none, none, none, none, none]) ⟨Or.inr rfl, Or.inl rfl, Or.inl rfl, Or.inl rfl, Or.inl rfl, Or.inl rfl, Or.inl rfl, Or.inr rfl, Or.inr rfl, trivial⟩ ?_
          exact T_X11_crosses_40 hd hq
        ·
          refine st_iload (pc := 46) dX11_crosses_46 rfl ?_
          refine bd_if_ne (pc := 48) (tgt := 56) hq dX11_crosses_48 (by decide) (fun _ hq => ?_) (fun _ hq => ?_)
          ·
            refine st_iload (pc := 51) dX11_crosses_51 rfl ?_
            refine bd_if_eq (pc := 53) (tgt := 62) hq dX11_crosses_53 (by decide) (fun _ hq => ?_) (fun _ hq => ?_)
            ·
              refine st_aload_n (pc := 62) dX11_crosses_62 rfl ?_
              refine bd_getr (pc := 63) hq dX11_crosses_63 fl_11_12_11 rfl (fun v3 hq => ?_)
              refine bd_getr (pc := 66) hq dX11_crosses_66 fl_11_196_10 rfl (fun v4 hq => ?_)
              refine st_astore (pc := 69) (lv' := [some (.ref l0), some (.int l1), some (.int l2), some (.int l3), some (.int l4), some (.int q1.1), some (.int q2.1), some (.ref v4), none]) dX11_crosses_69 rfl (by decide) rfl ?_
              refine st_aload (pc := 71) dX11_crosses_71 rfl ?_
              refine st_iload_n (pc := 73) dX11_crosses_73 rfl ?_
              refine st_iload_n (pc := 74) dX11_crosses_74 rfl ?_
              refine st_iconst (pc := 75) (v := (0 : Int32)) dX11_crosses_75 rfl ?_
              obtain ⟨⟨hbq5, hkq5⟩, hq⟩ := mh_oi hq
              obtain ⟨q5, e5, hq⟩ := mh_ob hq
              refine st_invV (pc := 76) (ci := 1) (vs := [.int l1, .int l2, .int (0 : Int32)]) (rest := []) (st2 := [.int q5.1]) dX11_crosses_76 okX1_said (by decide) hkq5 hbq5 wd_879 wd_880 wd_881 pdX1_said rfl rfl rfl rfl (Nat.le_trans (by decide) hd) (Nat.le_of_ble_eq_true rfl) (T_X1_said (Nat.le_refl _) e5) rfl ?_
              refine st_iconst (pc := 79) (v := (3 : Int32)) dX11_crosses_79 rfl ?_
              refine bd_icmp_ne (pc := 80) (tgt := 125) hq dX11_crosses_80 (by decide) (fun _ hq => ?_) (fun _ hq => ?_)
              ·
                refine st_aload (pc := 83) dX11_crosses_83 rfl ?_
                refine st_iload_n (pc := 85) dX11_crosses_85 rfl ?_
                refine st_iload (pc := 86) dX11_crosses_86 rfl ?_
                refine st_iconst (pc := 88) (v := (0 : Int32)) dX11_crosses_88 rfl ?_
                obtain ⟨⟨hbq6, hkq6⟩, hq⟩ := mh_oi hq
                obtain ⟨q6, e6, hq⟩ := mh_ob hq
                refine st_invV (pc := 89) (ci := 1) (vs := [.int l3, .int l4, .int (0 : Int32)]) (rest := []) (st2 := [.int q6.1]) dX11_crosses_89 okX1_said (by decide) hkq6 hbq6 wd_879 wd_880 wd_881 pdX1_said rfl rfl rfl rfl (Nat.le_trans (by decide) hd) (Nat.le_of_ble_eq_true rfl) (T_X1_said (Nat.le_refl _) e6) rfl ?_
                refine st_iconst (pc := 92) (v := (3 : Int32)) dX11_crosses_92 rfl ?_
                refine bd_icmp_ne (pc := 93) (tgt := 125) hq dX11_crosses_93 (by decide) (fun _ hq => ?_) (fun _ hq => ?_)
                ·
                  refine st_aload (pc := 96) dX11_crosses_96 rfl ?_
                  refine st_iload_n (pc := 98) dX11_crosses_98 rfl ?_
                  refine st_iload (pc := 99) dX11_crosses_99 rfl ?_
                  refine st_iconst (pc := 101) (v := (0 : Int32)) dX11_crosses_101 rfl ?_
                  obtain ⟨⟨hbq7, hkq7⟩, hq⟩ := mh_oi hq
                  obtain ⟨q7, e7, hq⟩ := mh_ob hq
                  refine st_invV (pc := 102) (ci := 1) (vs := [.int l1, .int l4, .int (0 : Int32)]) (rest := []) (st2 := [.int q7.1]) dX11_crosses_102 okX1_said (by decide) hkq7 hbq7 wd_879 wd_880 wd_881 pdX1_said rfl rfl rfl rfl (Nat.le_trans (by decide) hd) (Nat.le_of_ble_eq_true rfl) (T_X1_said (Nat.le_refl _) e7) rfl ?_
                  refine st_iconst (pc := 105) (v := (2 : Int32)) dX11_crosses_105 rfl ?_
                  refine bd_icmp_ge (pc := 106) (tgt := 125) hq dX11_crosses_106 (by decide) (fun _ hq => ?_) (fun _ hq => ?_)
                  ·
                    refine st_lesS (lv' := [some (.ref l0), some (.int l1), some (.int l2), some (.int l3), some (.int l4), none, none, none, none]) ⟨Or.inr rfl, Or.inr rfl, Or.inr rfl, Or.inr rfl, Or.inr rfl, Or.inl rfl, Or.inl rfl, Or.inl rfl, Or.inr rfl, trivial⟩ ?_
                    exact T_X11_crosses_125 hd hq
                  ·
                    refine st_aload (pc := 109) dX11_crosses_109 rfl ?_
                    refine st_iload_n (pc := 111) dX11_crosses_111 rfl ?_
                    refine st_iload_n (pc := 112) dX11_crosses_112 rfl ?_
                    refine st_iconst (pc := 113) (v := (0 : Int32)) dX11_crosses_113 rfl ?_
                    obtain ⟨⟨hbq8, hkq8⟩, hq⟩ := mh_oi hq
                    obtain ⟨q8, e8, hq⟩ := mh_ob hq
                    refine st_invV (pc := 114) (ci := 1) (vs := [.int l3, .int l2, .int (0 : Int32)]) (rest := []) (st2 := [.int q8.1]) dX11_crosses_114 okX1_said (by decide) hkq8 hbq8 wd_879 wd_880 wd_881 pdX1_said rfl rfl rfl rfl (Nat.le_trans (by decide) hd) (Nat.le_of_ble_eq_true rfl) (T_X1_said (Nat.le_refl _) e8) rfl ?_
                    refine st_iconst (pc := 117) (v := (2 : Int32)) dX11_crosses_117 rfl ?_
                    refine bd_icmp_ge (pc := 118) (tgt := 125) hq dX11_crosses_118 (by decide) (fun _ hq => ?_) (fun _ hq => ?_)
                    ·
                      refine st_lesS (lv' := [some (.ref l0), some (.int l1), some (.int l2), some (.int l3), some (.int l4), none, none, none, none]) ⟨Or.inr rfl, Or.inr rfl, Or.inr rfl, Or.inr rfl, Or.inr rfl, Or.inl rfl, Or.inl rfl, Or.inl rfl, Or.inr rfl, trivial⟩ ?_
                      exact T_X11_crosses_125 hd hq
                    ·
                      refine st_iconst (pc := 121) (v := (1 : Int32)) dX11_crosses_121 rfl ?_
                      refine st_goto (pc := 122) (tgt := 126) dX11_crosses_122 (by decide) ?_
                      refine st_lesS (lv' := [some (.ref l0), some (.int l1), some (.int l2), some (.int l3), some (.int l4), none, none, none, none]) ⟨Or.inr rfl, Or.inr rfl, Or.inr rfl, Or.inr rfl, Or.inr rfl, Or.inl rfl, Or.inl rfl, Or.inl rfl, Or.inr rfl, trivial⟩ ?_
                      exact T_X11_crosses_126 hd hq
                ·
                  refine st_lesS (lv' := [some (.ref l0), some (.int l1), some (.int l2), some (.int l3), some (.int l4), none, none, none, none]) ⟨Or.inr rfl, Or.inr rfl, Or.inr rfl, Or.inr rfl, Or.inr rfl, Or.inl rfl, Or.inl rfl, Or.inl rfl, Or.inr rfl, trivial⟩ ?_
                  exact T_X11_crosses_125 hd hq
              ·
                refine st_lesS (lv' := [some (.ref l0), some (.int l1), some (.int l2), some (.int l3), some (.int l4), none, none, none, none]) ⟨Or.inr rfl, Or.inr rfl, Or.inr rfl, Or.inr rfl, Or.inr rfl, Or.inl rfl, Or.inl rfl, Or.inl rfl, Or.inr rfl, trivial⟩ ?_
                exact T_X11_crosses_125 hd hq
            ·
              refine st_lesS (lv' := [some (.ref l0), none, none, none, none, none, none, none, none]) ⟨Or.inr rfl, Or.inl rfl, Or.inl rfl, Or.inl rfl, Or.inl rfl, Or.inl rfl, Or.inl rfl, Or.inr rfl, Or.inr rfl, trivial⟩ ?_
              exact T_X11_crosses_56 hd hq
          ·
            refine st_lesS (lv' := [some (.ref l0), none, none, none, none, none, none, none, none]) ⟨Or.inr rfl, Or.inl rfl, Or.inl rfl, Or.inl rfl, Or.inl rfl, Or.inl rfl, Or.inl rfl, Or.inr rfl, Or.inr rfl, trivial⟩ ?_
            exact T_X11_crosses_56 hd hq
-- HoleWater$Looks.canCover(II)Z
theorem dX1_canCover_8 : decode cX1_canCover 8 = .ok (.iload_n 1, 1) := by decide +kernel
theorem dX1_canCover_9 : decode cX1_canCover 9 = .ok (.ifCond .ne 7, 3) := by decide +kernel
theorem dX1_canCover_12 : decode cX1_canCover 12 = .ok (.iconst 1, 1) := by decide +kernel
theorem dX1_canCover_13 : decode cX1_canCover 13 = .ok (.goto 4, 3) := by decide +kernel
theorem dX1_canCover_17 : decode cX1_canCover 17 = .ok (.ireturn, 1) := by decide +kernel
theorem dX1_canCover_16 : decode cX1_canCover 16 = .ok (.iconst 0, 1) := by decide +kernel
theorem dX1_canCover_71 : decode cX1_canCover 71 = .ok (.iinc 4 1, 3) := by decide +kernel
theorem dX1_canCover_74 : decode cX1_canCover 74 = .ok (.goto (-48), 3) := by decide +kernel
theorem dX1_canCover_26 : decode cX1_canCover 26 = .ok (.iload 4, 2) := by decide +kernel
theorem dX1_canCover_28 : decode cX1_canCover 28 = .ok (.aload_n 0, 1) := by decide +kernel
theorem dX1_canCover_29 : decode cX1_canCover 29 = .ok (.getfield 34, 3) := by decide +kernel
theorem dX1_canCover_32 : decode cX1_canCover 32 = .ok (.arraylength, 1) := by decide +kernel
theorem dX1_canCover_33 : decode cX1_canCover 33 = .ok (.if_icmp .ge 44, 3) := by decide +kernel
theorem dX1_canCover_77 : decode cX1_canCover 77 = .ok (.iconst 0, 1) := by decide +kernel
theorem dX1_canCover_78 : decode cX1_canCover 78 = .ok (.ireturn, 1) := by decide +kernel
theorem dX1_canCover_36 : decode cX1_canCover 36 = .ok (.aload_n 0, 1) := by decide +kernel
theorem dX1_canCover_37 : decode cX1_canCover 37 = .ok (.getfield 34, 3) := by decide +kernel
theorem dX1_canCover_40 : decode cX1_canCover 40 = .ok (.iload 4, 2) := by decide +kernel
theorem dX1_canCover_42 : decode cX1_canCover 42 = .ok (.iaload, 1) := by decide +kernel
theorem dX1_canCover_43 : decode cX1_canCover 43 = .ok (.iload_n 3, 1) := by decide +kernel
theorem dX1_canCover_44 : decode cX1_canCover 44 = .ok (.iand, 1) := by decide +kernel
theorem dX1_canCover_45 : decode cX1_canCover 45 = .ok (.ifCond .eq 26, 3) := by decide +kernel
theorem dX1_canCover_48 : decode cX1_canCover 48 = .ok (.aload_n 0, 1) := by decide +kernel
theorem dX1_canCover_49 : decode cX1_canCover 49 = .ok (.iload_n 1, 1) := by decide +kernel
theorem dX1_canCover_50 : decode cX1_canCover 50 = .ok (.aload_n 0, 1) := by decide +kernel
theorem dX1_canCover_51 : decode cX1_canCover 51 = .ok (.getfield 34, 3) := by decide +kernel
theorem dX1_canCover_54 : decode cX1_canCover 54 = .ok (.iload 4, 2) := by decide +kernel
theorem dX1_canCover_56 : decode cX1_canCover 56 = .ok (.iaload, 1) := by decide +kernel
theorem dX1_canCover_57 : decode cX1_canCover 57 = .ok (.iconst (-1), 1) := by decide +kernel
theorem dX1_canCover_58 : decode cX1_canCover 58 = .ok (.ixor, 1) := by decide +kernel
theorem dX1_canCover_59 : decode cX1_canCover 59 = .ok (.iand, 1) := by decide +kernel
theorem dX1_canCover_60 : decode cX1_canCover 60 = .ok (.iload_n 2, 1) := by decide +kernel
theorem dX1_canCover_61 : decode cX1_canCover 61 = .ok (.iconst 1, 1) := by decide +kernel
theorem dX1_canCover_62 : decode cX1_canCover 62 = .ok (.isub, 1) := by decide +kernel
theorem dX1_canCover_63 : decode cX1_canCover 63 = .ok (.invokevirtual 100, 3) := by decide +kernel
theorem dX1_canCover_66 : decode cX1_canCover 66 = .ok (.ifCond .eq 5, 3) := by decide +kernel
theorem dX1_canCover_69 : decode cX1_canCover 69 = .ok (.iconst 1, 1) := by decide +kernel
theorem dX1_canCover_70 : decode cX1_canCover 70 = .ok (.ireturn, 1) := by decide +kernel
theorem dX1_canCover_0 : decode cX1_canCover 0 = .ok (.iload_n 1, 1) := by decide +kernel
theorem dX1_canCover_1 : decode cX1_canCover 1 = .ok (.ifCond .eq 7, 3) := by decide +kernel
theorem dX1_canCover_4 : decode cX1_canCover 4 = .ok (.iload_n 2, 1) := by decide +kernel
theorem dX1_canCover_5 : decode cX1_canCover 5 = .ok (.ifCond .gt 13, 3) := by decide +kernel
theorem dX1_canCover_18 : decode cX1_canCover 18 = .ok (.iload_n 1, 1) := by decide +kernel
theorem dX1_canCover_19 : decode cX1_canCover 19 = .ok (.iload_n 1, 1) := by decide +kernel
theorem dX1_canCover_20 : decode cX1_canCover 20 = .ok (.ineg, 1) := by decide +kernel
theorem dX1_canCover_21 : decode cX1_canCover 21 = .ok (.iand, 1) := by decide +kernel
theorem dX1_canCover_22 : decode cX1_canCover 22 = .ok (.istore_n 3, 1) := by decide +kernel
theorem dX1_canCover_23 : decode cX1_canCover 23 = .ok (.iconst 0, 1) := by decide +kernel
theorem dX1_canCover_24 : decode cX1_canCover 24 = .ok (.istore 4, 2) := by decide +kernel
def D_X1_canCover_8 (N : Nat) (kB : mh_H → Nat → Int32 → Int32 → Option (Int32 × mh_H)) (h : mh_H) (l1 : Int32) : Option (Int32 × mh_H) :=
  if l1 = 0 then (zB (1 : Int32) h)
  else (zB (0 : Int32) h)
set_option maxHeartbeats 4000000 in
set_option maxRecDepth 100000 in
theorem T_X1_canCover_8 {P : mh_E → Prop} {N d : Nat} (hd : 1 ≤ d) {kB : mh_H → Nat → Int32 → Int32 → Option (Int32 × mh_H)} {dB : Nat} (hdB : dB + 1 ≤ d) (hB : ∀ (h : mh_H) (x0 : Nat) (x1 : Int32) (x2 : Int32) (z : (Int32 × mh_H)), kB h x0 x1 x2 = some z → mh_go P dB mX1_canCover 0 [some (.ref x0), some (.int x1), some (.int x2), none, none] [] h (some (.int z.1)) z.2) {z : (Int32 × mh_H)} {h : mh_H} {l1 : Int32} (hq : D_X1_canCover_8 N kB h l1 = some z) : mh_go P d mX1_canCover 8 [none, some (.int l1), none, none, none] [] h (some (.int z.1)) z.2 := by
  unfold D_X1_canCover_8 at hq
  refine st_iload_n (pc := 8) dX1_canCover_8 rfl ?_
  refine bd_if_ne (pc := 9) (tgt := 16) hq dX1_canCover_9 (by decide) (fun _ hq => ?_) (fun _ hq => ?_)
  ·
    refine st_iconst (pc := 12) (v := (1 : Int32)) dX1_canCover_12 rfl ?_
    refine st_goto (pc := 13) (tgt := 17) dX1_canCover_13 (by decide) ?_
    exact bd_zret (pc := 17) hq dX1_canCover_17 rfl
  ·
    refine st_iconst (pc := 16) (v := (0 : Int32)) dX1_canCover_16 rfl ?_
    exact bd_zret (pc := 17) hq dX1_canCover_17 rfl
def D_X1_canCover_71 (N : Nat) (kB : mh_H → Nat → Int32 → Int32 → Option (Int32 × mh_H)) (k26 : mh_H → Nat → Int32 → Int32 → Int32 → Int32 → Option (Int32 × mh_H)) (h : mh_H) (l0 : Nat) (l1 : Int32) (l2 : Int32) (l3 : Int32) (l4 : Int32) : Option (Int32 × mh_H) :=
  k26 h l0 l1 l2 l3 (l4 + Int32.ofInt (1))
set_option maxHeartbeats 4000000 in
set_option maxRecDepth 100000 in
theorem T_X1_canCover_71 {P : mh_E → Prop} {N d : Nat} (hd : 1 ≤ d) {kB : mh_H → Nat → Int32 → Int32 → Option (Int32 × mh_H)} {dB : Nat} (hdB : dB + 1 ≤ d) (hB : ∀ (h : mh_H) (x0 : Nat) (x1 : Int32) (x2 : Int32) (z : (Int32 × mh_H)), kB h x0 x1 x2 = some z → mh_go P dB mX1_canCover 0 [some (.ref x0), some (.int x1), some (.int x2), none, none] [] h (some (.int z.1)) z.2) {z : (Int32 × mh_H)} {k26 : mh_H → Nat → Int32 → Int32 → Int32 → Int32 → Option (Int32 × mh_H)} (hk26 : ∀ (h : mh_H) (l0 : Nat) (l1 : Int32) (l2 : Int32) (l3 : Int32) (l4 : Int32), k26 h l0 l1 l2 l3 l4 = some z → mh_go P d mX1_canCover 26 [some (.ref l0), some (.int l1), some (.int l2), some (.int l3), some (.int l4)] [] h (some (.int z.1)) z.2) {h : mh_H} {l0 : Nat} {l1 : Int32} {l2 : Int32} {l3 : Int32} {l4 : Int32} (hq : D_X1_canCover_71 N kB k26 h l0 l1 l2 l3 l4 = some z) : mh_go P d mX1_canCover 71 [some (.ref l0), some (.int l1), some (.int l2), some (.int l3), some (.int l4)] [] h (some (.int z.1)) z.2 := by
  unfold D_X1_canCover_71 at hq
  refine st_iinc (pc := 71) (lv' := [some (.ref l0), some (.int l1), some (.int l2), some (.int l3), some (.int (l4 + Int32.ofInt (1)))]) dX1_canCover_71 rfl rfl (by decide) rfl ?_
  refine st_goto (pc := 74) (tgt := 26) dX1_canCover_74 (by decide) ?_
  exact hk26 _ _ _ _ _ _ hq
def D_X1_canCover_26 (N : Nat) (kB : mh_H → Nat → Int32 → Int32 → Option (Int32 × mh_H)) : Nat → mh_H → Nat → Int32 → Int32 → Int32 → Int32 → Option (Int32 × mh_H)
  | 0, _, _, _, _, _, _ => none
  | F + 1, h, l0, l1, l2, l3, l4 =>
    (gR h 1 l0 7).bind fun v1 =>
    (aL h v1).bind fun v2 =>
    if v2 ≤ l4 then (zB (0 : Int32) h)
    else ((gR h 1 l0 7).bind fun v3 =>
    (aI h v3 l4).bind fun v4 =>
    if (v4 &&& l3) = 0 then (D_X1_canCover_71 N kB (D_X1_canCover_26 N kB F) h l0 l1 l2 l3 l4)
    else ((gR h 1 l0 7).bind fun v5 =>
    (aI h v5 l4).bind fun v6 =>
    kO h 1 l0 <|
    (kB h l0 (l1 &&& (v6 ^^^ (-1 : Int32))) (l2 - (1 : Int32))).bind fun q7 =>
    if q7.1 = 0 then (D_X1_canCover_71 N kB (D_X1_canCover_26 N kB F) q7.2 l0 l1 l2 l3 l4)
    else (zB (1 : Int32) q7.2)))
set_option maxHeartbeats 4000000 in
set_option maxRecDepth 100000 in
theorem T_X1_canCover_26 {P : mh_E → Prop} {N d : Nat} (hd : 1 ≤ d) {kB : mh_H → Nat → Int32 → Int32 → Option (Int32 × mh_H)} {dB : Nat} (hdB : dB + 1 ≤ d) (hB : ∀ (h : mh_H) (x0 : Nat) (x1 : Int32) (x2 : Int32) (z : (Int32 × mh_H)), kB h x0 x1 x2 = some z → mh_go P dB mX1_canCover 0 [some (.ref x0), some (.int x1), some (.int x2), none, none] [] h (some (.int z.1)) z.2) {z : (Int32 × mh_H)} : ∀ (F : Nat) (h : mh_H) (l0 : Nat) (l1 : Int32) (l2 : Int32) (l3 : Int32) (l4 : Int32), D_X1_canCover_26 N kB F h l0 l1 l2 l3 l4 = some z → mh_go P d mX1_canCover 26 [some (.ref l0), some (.int l1), some (.int l2), some (.int l3), some (.int l4)] [] h (some (.int z.1)) z.2 := by
  intro F
  induction F with
  | zero => intro h l0 l1 l2 l3 l4 hq; rw [D_X1_canCover_26] at hq; cases hq
  | succ F ih =>
    intro h l0 l1 l2 l3 l4 hq
    rw [D_X1_canCover_26] at hq
    refine st_iload (pc := 26) dX1_canCover_26 rfl ?_
    refine st_aload_n (pc := 28) dX1_canCover_28 rfl ?_
    refine bd_getr (pc := 29) hq dX1_canCover_29 fl_1_34_1 rfl (fun v1 hq => ?_)
    refine bd_alen (pc := 32) hq dX1_canCover_32 (fun v2 hq => ?_)
    refine bd_icmp_ge (pc := 33) (tgt := 77) hq dX1_canCover_33 (by decide) (fun _ hq => ?_) (fun _ hq => ?_)
    ·
      refine st_iconst (pc := 77) (v := (0 : Int32)) dX1_canCover_77 rfl ?_
      exact bd_zret (pc := 78) hq dX1_canCover_78 rfl
    ·
      refine st_aload_n (pc := 36) dX1_canCover_36 rfl ?_
      refine bd_getr (pc := 37) hq dX1_canCover_37 fl_1_34_1 rfl (fun v3 hq => ?_)
      refine st_iload (pc := 40) dX1_canCover_40 rfl ?_
      refine bd_iald (pc := 42) hq dX1_canCover_42 (fun v4 hq => ?_)
      refine st_iload_n (pc := 43) dX1_canCover_43 rfl ?_
      refine st_iand (pc := 44) dX1_canCover_44 ?_
      refine bd_if_eq (pc := 45) (tgt := 71) hq dX1_canCover_45 (by decide) (fun _ hq => ?_) (fun _ hq => ?_)
      ·
        exact T_X1_canCover_71 hd hdB hB ih hq
      ·
        refine st_aload_n (pc := 48) dX1_canCover_48 rfl ?_
        refine st_iload_n (pc := 49) dX1_canCover_49 rfl ?_
        refine st_aload_n (pc := 50) dX1_canCover_50 rfl ?_
        refine bd_getr (pc := 51) hq dX1_canCover_51 fl_1_34_1 rfl (fun v5 hq => ?_)
        refine st_iload (pc := 54) dX1_canCover_54 rfl ?_
        refine bd_iald (pc := 56) hq dX1_canCover_56 (fun v6 hq => ?_)
        refine st_iconst (pc := 57) (v := (-1 : Int32)) dX1_canCover_57 rfl ?_
        refine st_ixor (pc := 58) dX1_canCover_58 ?_
        refine st_iand (pc := 59) dX1_canCover_59 ?_
        refine st_iload_n (pc := 60) dX1_canCover_60 rfl ?_
        refine st_iconst (pc := 61) (v := (1 : Int32)) dX1_canCover_61 rfl ?_
        refine st_isub (pc := 62) dX1_canCover_62 ?_
        obtain ⟨⟨hbq7, hkq7⟩, hq⟩ := mh_oi hq
        obtain ⟨q7, e7, hq⟩ := mh_ob hq
        refine st_invV (pc := 63) (ci := 1) (vs := [.int (l1 &&& (v6 ^^^ (-1 : Int32))), .int (l2 - (1 : Int32))]) (rest := []) (st2 := [.int q7.1]) dX1_canCover_63 okX1_canCover (by decide) hkq7 hbq7 wd_968 wd_970 wp_32 pdX1_canCover rfl rfl rfl rfl (by omega) (Nat.le_of_ble_eq_true rfl) (hB _ _ _ _ _ e7) rfl ?_
        refine bd_if_eq (pc := 66) (tgt := 71) hq dX1_canCover_66 (by decide) (fun _ hq => ?_) (fun _ hq => ?_)
        ·
          exact T_X1_canCover_71 hd hdB hB ih hq
        ·
          refine st_iconst (pc := 69) (v := (1 : Int32)) dX1_canCover_69 rfl ?_
          exact bd_zret (pc := 70) hq dX1_canCover_70 rfl
def E_X1_canCover (N : Nat) (kB : mh_H → Nat → Int32 → Int32 → Option (Int32 × mh_H)) (h : mh_H) (l0 : Nat) (l1 : Int32) (l2 : Int32) : Option (Int32 × mh_H) :=
  if l1 = 0 then (D_X1_canCover_8 N kB h l1)
  else (if 0 < l2 then (D_X1_canCover_26 N kB N h l0 l1 l2 (l1 &&& (-l1)) (0 : Int32))
  else (D_X1_canCover_8 N kB h l1))
set_option maxHeartbeats 4000000 in
set_option maxRecDepth 100000 in
theorem TE_X1_canCover {P : mh_E → Prop} {N d : Nat} (hd : 1 ≤ d) {kB : mh_H → Nat → Int32 → Int32 → Option (Int32 × mh_H)} {dB : Nat} (hdB : dB + 1 ≤ d) (hB : ∀ (h : mh_H) (x0 : Nat) (x1 : Int32) (x2 : Int32) (z : (Int32 × mh_H)), kB h x0 x1 x2 = some z → mh_go P dB mX1_canCover 0 [some (.ref x0), some (.int x1), some (.int x2), none, none] [] h (some (.int z.1)) z.2) {z : (Int32 × mh_H)} {h : mh_H} {l0 : Nat} {l1 : Int32} {l2 : Int32} (hq : E_X1_canCover N kB h l0 l1 l2 = some z) : mh_go P d mX1_canCover 0 [some (.ref l0), some (.int l1), some (.int l2), none, none] [] h (some (.int z.1)) z.2 := by
  unfold E_X1_canCover at hq
  refine st_iload_n (pc := 0) dX1_canCover_0 rfl ?_
  refine bd_if_eq (pc := 1) (tgt := 8) hq dX1_canCover_1 (by decide) (fun _ hq => ?_) (fun _ hq => ?_)
  ·
    refine st_lesS (lv' := [none, some (.int l1), none, none, none]) ⟨Or.inl rfl, Or.inr rfl, Or.inl rfl, Or.inr rfl, Or.inr rfl, trivial⟩ ?_
    exact T_X1_canCover_8 hd hdB hB hq
  ·
    refine st_iload_n (pc := 4) dX1_canCover_4 rfl ?_
    refine bd_if_gt (pc := 5) (tgt := 18) hq dX1_canCover_5 (by decide) (fun _ hq => ?_) (fun _ hq => ?_)
    ·
      refine st_iload_n (pc := 18) dX1_canCover_18 rfl ?_
      refine st_iload_n (pc := 19) dX1_canCover_19 rfl ?_
      refine st_ineg (pc := 20) dX1_canCover_20 ?_
      refine st_iand (pc := 21) dX1_canCover_21 ?_
      refine st_istore_n (pc := 22) (lv' := [some (.ref l0), some (.int l1), some (.int l2), some (.int (l1 &&& (-l1))), none]) dX1_canCover_22 rfl (by decide) rfl ?_
      refine st_iconst (pc := 23) (v := (0 : Int32)) dX1_canCover_23 rfl ?_
      refine st_istore (pc := 24) (lv' := [some (.ref l0), some (.int l1), some (.int l2), some (.int (l1 &&& (-l1))), some (.int (0 : Int32))]) dX1_canCover_24 rfl (by decide) rfl ?_
      exact T_X1_canCover_26 hd hdB hB N _ _ _ _ _ _ hq
    ·
      refine st_lesS (lv' := [none, some (.int l1), none, none, none]) ⟨Or.inl rfl, Or.inr rfl, Or.inl rfl, Or.inr rfl, Or.inr rfl, trivial⟩ ?_
      exact T_X1_canCover_8 hd hdB hB hq
def D_X1_canCover (N : Nat) : Nat → mh_H → Nat → Int32 → Int32 → Option (Int32 × mh_H)
  | 0, _, _, _, _ => none
  | D + 1, h, l0, l1, l2 => E_X1_canCover N (D_X1_canCover N D) h l0 l1 l2
set_option maxHeartbeats 4000000 in
set_option maxRecDepth 100000 in
theorem T_X1_canCover {P : mh_E → Prop} {N : Nat} : ∀ (D d : Nat), 1 + 1 * D ≤ d → ∀ (h : mh_H) (l0 : Nat) (l1 : Int32) (l2 : Int32) (z : (Int32 × mh_H)), D_X1_canCover N D h l0 l1 l2 = some z → mh_go P d mX1_canCover 0 [some (.ref l0), some (.int l1), some (.int l2), none, none] [] h (some (.int z.1)) z.2 := by
  intro D
  induction D with
  | zero => intro d hd h l0 l1 l2 z hq; rw [D_X1_canCover] at hq; cases hq
  | succ D ih =>
    intro d hd h l0 l1 l2 z hq
    rw [D_X1_canCover] at hq
    exact TE_X1_canCover (dB := 1 + 1 * D) (by omega) (by omega) (fun h l0 l1 l2 z hq => ih _ (Nat.le_refl _) h l0 l1 l2 z hq) hq
-- HoleWater$Looks.coverOf(II)I
theorem dX1_coverOf_40 : decode cX1_coverOf 40 = .ok (.iand, 1) := by decide +kernel
theorem dX1_coverOf_41 : decode cX1_coverOf 41 = .ok (.istore_n 3, 1) := by decide +kernel
theorem dX1_coverOf_42 : decode cX1_coverOf 42 = .ok (.iinc 4 1, 3) := by decide +kernel
theorem dX1_coverOf_45 : decode cX1_coverOf 45 = .ok (.goto (-39), 3) := by decide +kernel
theorem dX1_coverOf_106 : decode cX1_coverOf 106 = .ok (.iinc 5 1, 3) := by decide +kernel
theorem dX1_coverOf_109 : decode cX1_coverOf 109 = .ok (.goto (-55), 3) := by decide +kernel
theorem dX1_coverOf_54 : decode cX1_coverOf 54 = .ok (.iload 5, 2) := by decide +kernel
theorem dX1_coverOf_56 : decode cX1_coverOf 56 = .ok (.iload_n 2, 1) := by decide +kernel
theorem dX1_coverOf_57 : decode cX1_coverOf 57 = .ok (.if_icmp .ge 55, 3) := by decide +kernel
theorem dX1_coverOf_112 : decode cX1_coverOf 112 = .ok (.iload 4, 2) := by decide +kernel
theorem dX1_coverOf_114 : decode cX1_coverOf 114 = .ok (.ireturn, 1) := by decide +kernel
theorem dX1_coverOf_60 : decode cX1_coverOf 60 = .ok (.iload 5, 2) := by decide +kernel
theorem dX1_coverOf_62 : decode cX1_coverOf 62 = .ok (.iconst 5, 1) := by decide +kernel
theorem dX1_coverOf_63 : decode cX1_coverOf 63 = .ok (.if_icmp .ge 49, 3) := by decide +kernel
theorem dX1_coverOf_66 : decode cX1_coverOf 66 = .ok (.iload_n 1, 1) := by decide +kernel
theorem dX1_coverOf_67 : decode cX1_coverOf 67 = .ok (.iload 5, 2) := by decide +kernel
theorem dX1_coverOf_69 : decode cX1_coverOf 69 = .ok (.invokestatic 63, 3) := by decide +kernel
theorem dX1_coverOf_72 : decode cX1_coverOf 72 = .ok (.iconst 1, 1) := by decide +kernel
theorem dX1_coverOf_73 : decode cX1_coverOf 73 = .ok (.if_icmp .ne 17, 3) := by decide +kernel
theorem dX1_coverOf_76 : decode cX1_coverOf 76 = .ok (.iload 4, 2) := by decide +kernel
theorem dX1_coverOf_78 : decode cX1_coverOf 78 = .ok (.iload_n 3, 1) := by decide +kernel
theorem dX1_coverOf_79 : decode cX1_coverOf 79 = .ok (.iload 5, 2) := by decide +kernel
theorem dX1_coverOf_81 : decode cX1_coverOf 81 = .ok (.iconst 5, 1) := by decide +kernel
theorem dX1_coverOf_82 : decode cX1_coverOf 82 = .ok (.imul, 1) := by decide +kernel
theorem dX1_coverOf_83 : decode cX1_coverOf 83 = .ok (.ishl, 1) := by decide +kernel
theorem dX1_coverOf_84 : decode cX1_coverOf 84 = .ok (.ior, 1) := by decide +kernel
theorem dX1_coverOf_85 : decode cX1_coverOf 85 = .ok (.istore 4, 2) := by decide +kernel
theorem dX1_coverOf_87 : decode cX1_coverOf 87 = .ok (.goto 19, 3) := by decide +kernel
theorem dX1_coverOf_90 : decode cX1_coverOf 90 = .ok (.iload_n 3, 1) := by decide +kernel
theorem dX1_coverOf_91 : decode cX1_coverOf 91 = .ok (.aload_n 0, 1) := by decide +kernel
theorem dX1_coverOf_92 : decode cX1_coverOf 92 = .ok (.getfield 31, 3) := by decide +kernel
theorem dX1_coverOf_95 : decode cX1_coverOf 95 = .ok (.iload 5, 2) := by decide +kernel
theorem dX1_coverOf_97 : decode cX1_coverOf 97 = .ok (.iaload, 1) := by decide +kernel
theorem dX1_coverOf_98 : decode cX1_coverOf 98 = .ok (.iconst (-1), 1) := by decide +kernel
theorem dX1_coverOf_99 : decode cX1_coverOf 99 = .ok (.ixor, 1) := by decide +kernel
theorem dX1_coverOf_100 : decode cX1_coverOf 100 = .ok (.iand, 1) := by decide +kernel
theorem dX1_coverOf_101 : decode cX1_coverOf 101 = .ok (.ifCond .ne 5, 3) := by decide +kernel
theorem dX1_coverOf_104 : decode cX1_coverOf 104 = .ok (.iconst 0, 1) := by decide +kernel
theorem dX1_coverOf_105 : decode cX1_coverOf 105 = .ok (.ireturn, 1) := by decide +kernel
theorem dX1_coverOf_48 : decode cX1_coverOf 48 = .ok (.iconst 0, 1) := by decide +kernel
theorem dX1_coverOf_49 : decode cX1_coverOf 49 = .ok (.istore 4, 2) := by decide +kernel
theorem dX1_coverOf_51 : decode cX1_coverOf 51 = .ok (.iconst 0, 1) := by decide +kernel
theorem dX1_coverOf_52 : decode cX1_coverOf 52 = .ok (.istore 5, 2) := by decide +kernel
theorem dX1_coverOf_6 : decode cX1_coverOf 6 = .ok (.iload 4, 2) := by decide +kernel
theorem dX1_coverOf_8 : decode cX1_coverOf 8 = .ok (.iload_n 2, 1) := by decide +kernel
theorem dX1_coverOf_9 : decode cX1_coverOf 9 = .ok (.if_icmp .ge 39, 3) := by decide +kernel
theorem dX1_coverOf_12 : decode cX1_coverOf 12 = .ok (.iload 4, 2) := by decide +kernel
theorem dX1_coverOf_14 : decode cX1_coverOf 14 = .ok (.iconst 5, 1) := by decide +kernel
theorem dX1_coverOf_15 : decode cX1_coverOf 15 = .ok (.if_icmp .ge 33, 3) := by decide +kernel
theorem dX1_coverOf_18 : decode cX1_coverOf 18 = .ok (.iload_n 3, 1) := by decide +kernel
theorem dX1_coverOf_19 : decode cX1_coverOf 19 = .ok (.iload_n 1, 1) := by decide +kernel
theorem dX1_coverOf_20 : decode cX1_coverOf 20 = .ok (.iload 4, 2) := by decide +kernel
theorem dX1_coverOf_22 : decode cX1_coverOf 22 = .ok (.invokestatic 63, 3) := by decide +kernel
theorem dX1_coverOf_25 : decode cX1_coverOf 25 = .ok (.iconst 1, 1) := by decide +kernel
theorem dX1_coverOf_26 : decode cX1_coverOf 26 = .ok (.if_icmp .ne 13, 3) := by decide +kernel
theorem dX1_coverOf_29 : decode cX1_coverOf 29 = .ok (.aload_n 0, 1) := by decide +kernel
theorem dX1_coverOf_30 : decode cX1_coverOf 30 = .ok (.getfield 31, 3) := by decide +kernel
theorem dX1_coverOf_33 : decode cX1_coverOf 33 = .ok (.iload 4, 2) := by decide +kernel
theorem dX1_coverOf_35 : decode cX1_coverOf 35 = .ok (.iaload, 1) := by decide +kernel
theorem dX1_coverOf_36 : decode cX1_coverOf 36 = .ok (.goto 4, 3) := by decide +kernel
theorem dX1_coverOf_39 : decode cX1_coverOf 39 = .ok (.iload_n 3, 1) := by decide +kernel
theorem dX1_coverOf_0 : decode cX1_coverOf 0 = .ok (.bipush 31, 2) := by decide +kernel
theorem dX1_coverOf_2 : decode cX1_coverOf 2 = .ok (.istore_n 3, 1) := by decide +kernel
theorem dX1_coverOf_3 : decode cX1_coverOf 3 = .ok (.iconst 0, 1) := by decide +kernel
theorem dX1_coverOf_4 : decode cX1_coverOf 4 = .ok (.istore 4, 2) := by decide +kernel
def D_X1_coverOf_40 (N : Nat) (k6 : mh_H → Nat → Int32 → Int32 → Int32 → Int32 → Option (Int32 × mh_H)) (h : mh_H) (l0 : Nat) (l1 : Int32) (l2 : Int32) (l4 : Int32) (s0 : Int32) (s1 : Int32) : Option (Int32 × mh_H) :=
  k6 h l0 l1 l2 (s0 &&& s1) (l4 + Int32.ofInt (1))
set_option maxHeartbeats 4000000 in
set_option maxRecDepth 100000 in
theorem T_X1_coverOf_40 {P : mh_E → Prop} {N d : Nat} (hd : 2 ≤ d) {z : (Int32 × mh_H)} {k6 : mh_H → Nat → Int32 → Int32 → Int32 → Int32 → Option (Int32 × mh_H)} (hk6 : ∀ (h : mh_H) (l0 : Nat) (l1 : Int32) (l2 : Int32) (l3 : Int32) (l4 : Int32), k6 h l0 l1 l2 l3 l4 = some z → mh_go P d mX1_coverOf 6 [some (.ref l0), some (.int l1), some (.int l2), some (.int l3), some (.int l4), none] [] h (some (.int z.1)) z.2) {h : mh_H} {l0 : Nat} {l1 : Int32} {l2 : Int32} {l4 : Int32} {s0 : Int32} {s1 : Int32} (hq : D_X1_coverOf_40 N k6 h l0 l1 l2 l4 s0 s1 = some z) : mh_go P d mX1_coverOf 40 [some (.ref l0), some (.int l1), some (.int l2), none, some (.int l4), none] [.int s1, .int s0] h (some (.int z.1)) z.2 := by
  unfold D_X1_coverOf_40 at hq
  refine st_iand (pc := 40) dX1_coverOf_40 ?_
  refine st_istore_n (pc := 41) (lv' := [some (.ref l0), some (.int l1), some (.int l2), some (.int (s0 &&& s1)), some (.int l4), none]) dX1_coverOf_41 rfl (by decide) rfl ?_
  refine st_iinc (pc := 42) (lv' := [some (.ref l0), some (.int l1), some (.int l2), some (.int (s0 &&& s1)), some (.int (l4 + Int32.ofInt (1))), none]) dX1_coverOf_42 rfl rfl (by decide) rfl ?_
  refine st_goto (pc := 45) (tgt := 6) dX1_coverOf_45 (by decide) ?_
  exact hk6 _ _ _ _ _ _ hq
def D_X1_coverOf_106 (N : Nat) (k54 : mh_H → Nat → Int32 → Int32 → Int32 → Int32 → Int32 → Option (Int32 × mh_H)) (h : mh_H) (l0 : Nat) (l1 : Int32) (l2 : Int32) (l3 : Int32) (l4 : Int32) (l5 : Int32) : Option (Int32 × mh_H) :=
  k54 h l0 l1 l2 l3 l4 (l5 + Int32.ofInt (1))
set_option maxHeartbeats 4000000 in
set_option maxRecDepth 100000 in
theorem T_X1_coverOf_106 {P : mh_E → Prop} {N d : Nat} (hd : 2 ≤ d) {z : (Int32 × mh_H)} {k54 : mh_H → Nat → Int32 → Int32 → Int32 → Int32 → Int32 → Option (Int32 × mh_H)} (hk54 : ∀ (h : mh_H) (l0 : Nat) (l1 : Int32) (l2 : Int32) (l3 : Int32) (l4 : Int32) (l5 : Int32), k54 h l0 l1 l2 l3 l4 l5 = some z → mh_go P d mX1_coverOf 54 [some (.ref l0), some (.int l1), some (.int l2), some (.int l3), some (.int l4), some (.int l5)] [] h (some (.int z.1)) z.2) {h : mh_H} {l0 : Nat} {l1 : Int32} {l2 : Int32} {l3 : Int32} {l4 : Int32} {l5 : Int32} (hq : D_X1_coverOf_106 N k54 h l0 l1 l2 l3 l4 l5 = some z) : mh_go P d mX1_coverOf 106 [some (.ref l0), some (.int l1), some (.int l2), some (.int l3), some (.int l4), some (.int l5)] [] h (some (.int z.1)) z.2 := by
  unfold D_X1_coverOf_106 at hq
  refine st_iinc (pc := 106) (lv' := [some (.ref l0), some (.int l1), some (.int l2), some (.int l3), some (.int l4), some (.int (l5 + Int32.ofInt (1)))]) dX1_coverOf_106 rfl rfl (by decide) rfl ?_
  refine st_goto (pc := 109) (tgt := 54) dX1_coverOf_109 (by decide) ?_
  exact hk54 _ _ _ _ _ _ _ hq
def D_X1_coverOf_54 (N : Nat) : Nat → mh_H → Nat → Int32 → Int32 → Int32 → Int32 → Int32 → Option (Int32 × mh_H)
  | 0, _, _, _, _, _, _, _ => none
  | F + 1, h, l0, l1, l2, l3, l4, l5 =>
    if l2 ≤ l5 then (some (l4, h))
    else (if (5 : Int32) ≤ l5 then (some (l4, h))
    else ((D_X11_bit N h l1 l5).bind fun q1 =>
    if q1.1 = (1 : Int32) then (mh_let (l4 ||| (l3 <<< ((l5 * (5 : Int32)) &&& 31))) fun v2 =>
    D_X1_coverOf_106 N (D_X1_coverOf_54 N F) q1.2 l0 l1 l2 l3 v2 l5)
    else ((gR q1.2 1 l0 6).bind fun v2 =>
    (aI q1.2 v2 l5).bind fun v3 =>
    if (l3 &&& (v3 ^^^ (-1 : Int32))) = 0 then (some ((0 : Int32), q1.2))
    else (D_X1_coverOf_106 N (D_X1_coverOf_54 N F) q1.2 l0 l1 l2 l3 l4 l5))))
set_option maxHeartbeats 4000000 in
set_option maxRecDepth 100000 in
theorem T_X1_coverOf_54 {P : mh_E → Prop} {N d : Nat} (hd : 2 ≤ d) {z : (Int32 × mh_H)} : ∀ (F : Nat) (h : mh_H) (l0 : Nat) (l1 : Int32) (l2 : Int32) (l3 : Int32) (l4 : Int32) (l5 : Int32), D_X1_coverOf_54 N F h l0 l1 l2 l3 l4 l5 = some z → mh_go P d mX1_coverOf 54 [some (.ref l0), some (.int l1), some (.int l2), some (.int l3), some (.int l4), some (.int l5)] [] h (some (.int z.1)) z.2 := by
  intro F
  induction F with
  | zero => intro h l0 l1 l2 l3 l4 l5 hq; rw [D_X1_coverOf_54] at hq; cases hq
  | succ F ih =>
    intro h l0 l1 l2 l3 l4 l5 hq
    rw [D_X1_coverOf_54] at hq
    refine st_iload (pc := 54) dX1_coverOf_54 rfl ?_
    refine st_iload_n (pc := 56) dX1_coverOf_56 rfl ?_
    refine bd_icmp_ge (pc := 57) (tgt := 112) hq dX1_coverOf_57 (by decide) (fun _ hq => ?_) (fun _ hq => ?_)
    ·
      refine st_iload (pc := 112) dX1_coverOf_112 rfl ?_
      exact bd_iret (pc := 114) hq dX1_coverOf_114 rfl
    ·
      refine st_iload (pc := 60) dX1_coverOf_60 rfl ?_
      refine st_iconst (pc := 62) (v := (5 : Int32)) dX1_coverOf_62 rfl ?_
      refine bd_icmp_ge (pc := 63) (tgt := 112) hq dX1_coverOf_63 (by decide) (fun _ hq => ?_) (fun _ hq => ?_)
      ·
        refine st_iload (pc := 112) dX1_coverOf_112 rfl ?_
        exact bd_iret (pc := 114) hq dX1_coverOf_114 rfl
      ·
        refine st_iload_n (pc := 66) dX1_coverOf_66 rfl ?_
        refine st_iload (pc := 67) dX1_coverOf_67 rfl ?_
        obtain ⟨q1, e1, hq⟩ := mh_ob hq
        refine st_invSN (pc := 69) (Y := mX11_bit) (vs := [.int l1, .int l5]) (rest := []) (st2 := [.int q1.1]) dX1_coverOf_69 okX11_bit wn_891 wd_344 pdX11_bit rfl rfl rfl rfl (Nat.le_trans (by decide) hd) (Nat.le_of_ble_eq_true rfl) (T_X11_bit (Nat.le_refl _) e1) rfl ?_
        refine st_iconst (pc := 72) (v := (1 : Int32)) dX1_coverOf_72 rfl ?_
        refine bd_icmp_ne (pc := 73) (tgt := 90) hq dX1_coverOf_73 (by decide) (fun _ hq => ?_) (fun _ hq => ?_)
        ·
          refine st_iload (pc := 76) dX1_coverOf_76 rfl ?_
          refine st_iload_n (pc := 78) dX1_coverOf_78 rfl ?_
          refine st_iload (pc := 79) dX1_coverOf_79 rfl ?_
          refine st_iconst (pc := 81) (v := (5 : Int32)) dX1_coverOf_81 rfl ?_
          refine st_imul (pc := 82) dX1_coverOf_82 ?_
          refine st_ishl (pc := 83) dX1_coverOf_83 ?_
          refine st_ior (pc := 84) dX1_coverOf_84 ?_
          refine bd_leti hq (fun v2 hq => ?_)
          refine st_istore (pc := 85) (lv' := [some (.ref l0), some (.int l1), some (.int l2), some (.int l3), some (.int v2), some (.int l5)]) dX1_coverOf_85 rfl (by decide) rfl ?_
          refine st_goto (pc := 87) (tgt := 106) dX1_coverOf_87 (by decide) ?_
          exact T_X1_coverOf_106 hd ih hq
        ·
          refine st_iload_n (pc := 90) dX1_coverOf_90 rfl ?_
          refine st_aload_n (pc := 91) dX1_coverOf_91 rfl ?_
          refine bd_getr (pc := 92) hq dX1_coverOf_92 fl_1_31_1 rfl (fun v2 hq => ?_)
          refine st_iload (pc := 95) dX1_coverOf_95 rfl ?_
          refine bd_iald (pc := 97) hq dX1_coverOf_97 (fun v3 hq => ?_)
          refine st_iconst (pc := 98) (v := (-1 : Int32)) dX1_coverOf_98 rfl ?_
          refine st_ixor (pc := 99) dX1_coverOf_99 ?_
          refine st_iand (pc := 100) dX1_coverOf_100 ?_
          refine bd_if_ne (pc := 101) (tgt := 106) hq dX1_coverOf_101 (by decide) (fun _ hq => ?_) (fun _ hq => ?_)
          ·
            refine st_iconst (pc := 104) (v := (0 : Int32)) dX1_coverOf_104 rfl ?_
            exact bd_iret (pc := 105) hq dX1_coverOf_105 rfl
          ·
            exact T_X1_coverOf_106 hd ih hq
def D_X1_coverOf_48 (N : Nat) (h : mh_H) (l0 : Nat) (l1 : Int32) (l2 : Int32) (l3 : Int32) : Option (Int32 × mh_H) :=
  D_X1_coverOf_54 N N h l0 l1 l2 l3 (0 : Int32) (0 : Int32)
set_option maxHeartbeats 4000000 in
set_option maxRecDepth 100000 in
theorem T_X1_coverOf_48 {P : mh_E → Prop} {N d : Nat} (hd : 2 ≤ d) {z : (Int32 × mh_H)} {h : mh_H} {l0 : Nat} {l1 : Int32} {l2 : Int32} {l3 : Int32} (hq : D_X1_coverOf_48 N h l0 l1 l2 l3 = some z) : mh_go P d mX1_coverOf 48 [some (.ref l0), some (.int l1), some (.int l2), some (.int l3), none, none] [] h (some (.int z.1)) z.2 := by
  unfold D_X1_coverOf_48 at hq
  refine st_iconst (pc := 48) (v := (0 : Int32)) dX1_coverOf_48 rfl ?_
  refine st_istore (pc := 49) (lv' := [some (.ref l0), some (.int l1), some (.int l2), some (.int l3), some (.int (0 : Int32)), none]) dX1_coverOf_49 rfl (by decide) rfl ?_
  refine st_iconst (pc := 51) (v := (0 : Int32)) dX1_coverOf_51 rfl ?_
  refine st_istore (pc := 52) (lv' := [some (.ref l0), some (.int l1), some (.int l2), some (.int l3), some (.int (0 : Int32)), some (.int (0 : Int32))]) dX1_coverOf_52 rfl (by decide) rfl ?_
  exact T_X1_coverOf_54 hd N _ _ _ _ _ _ _ hq
def D_X1_coverOf_6 (N : Nat) : Nat → mh_H → Nat → Int32 → Int32 → Int32 → Int32 → Option (Int32 × mh_H)
  | 0, _, _, _, _, _, _ => none
  | F + 1, h, l0, l1, l2, l3, l4 =>
    if l2 ≤ l4 then (D_X1_coverOf_48 N h l0 l1 l2 l3)
    else (if (5 : Int32) ≤ l4 then (D_X1_coverOf_48 N h l0 l1 l2 l3)
    else ((D_X11_bit N h l1 l4).bind fun q1 =>
    if q1.1 = (1 : Int32) then ((gR q1.2 1 l0 6).bind fun v2 =>
    (aI q1.2 v2 l4).bind fun v3 =>
    D_X1_coverOf_40 N (D_X1_coverOf_6 N F) q1.2 l0 l1 l2 l4 l3 v3)
    else (D_X1_coverOf_40 N (D_X1_coverOf_6 N F) q1.2 l0 l1 l2 l4 l3 l3)))
set_option maxHeartbeats 4000000 in
set_option maxRecDepth 100000 in
theorem T_X1_coverOf_6 {P : mh_E → Prop} {N d : Nat} (hd : 2 ≤ d) {z : (Int32 × mh_H)} : ∀ (F : Nat) (h : mh_H) (l0 : Nat) (l1 : Int32) (l2 : Int32) (l3 : Int32) (l4 : Int32), D_X1_coverOf_6 N F h l0 l1 l2 l3 l4 = some z → mh_go P d mX1_coverOf 6 [some (.ref l0), some (.int l1), some (.int l2), some (.int l3), some (.int l4), none] [] h (some (.int z.1)) z.2 := by
  intro F
  induction F with
  | zero => intro h l0 l1 l2 l3 l4 hq; rw [D_X1_coverOf_6] at hq; cases hq
  | succ F ih =>
    intro h l0 l1 l2 l3 l4 hq
    rw [D_X1_coverOf_6] at hq
    refine st_iload (pc := 6) dX1_coverOf_6 rfl ?_
    refine st_iload_n (pc := 8) dX1_coverOf_8 rfl ?_
    refine bd_icmp_ge (pc := 9) (tgt := 48) hq dX1_coverOf_9 (by decide) (fun _ hq => ?_) (fun _ hq => ?_)
    ·
      refine st_lesS (lv' := [some (.ref l0), some (.int l1), some (.int l2), some (.int l3), none, none]) ⟨Or.inr rfl, Or.inr rfl, Or.inr rfl, Or.inr rfl, Or.inl rfl, Or.inr rfl, trivial⟩ ?_
      exact T_X1_coverOf_48 hd hq
    ·
      refine st_iload (pc := 12) dX1_coverOf_12 rfl ?_
      refine st_iconst (pc := 14) (v := (5 : Int32)) dX1_coverOf_14 rfl ?_
      refine bd_icmp_ge (pc := 15) (tgt := 48) hq dX1_coverOf_15 (by decide) (fun _ hq => ?_) (fun _ hq => ?_)
      ·
        refine st_lesS (lv' := [some (.ref l0), some (.int l1), some (.int l2), some (.int l3), none, none]) ⟨Or.inr rfl, Or.inr rfl, Or.inr rfl, Or.inr rfl, Or.inl rfl, Or.inr rfl, trivial⟩ ?_
        exact T_X1_coverOf_48 hd hq
      ·
        refine st_iload_n (pc := 18) dX1_coverOf_18 rfl ?_
        refine st_iload_n (pc := 19) dX1_coverOf_19 rfl ?_
        refine st_iload (pc := 20) dX1_coverOf_20 rfl ?_
        obtain ⟨q1, e1, hq⟩ := mh_ob hq
        refine st_invSN (pc := 22) (Y := mX11_bit) (vs := [.int l1, .int l4]) (rest := [.int l3]) (st2 := [.int q1.1, .int l3]) dX1_coverOf_22 okX11_bit wn_891 wd_344 pdX11_bit rfl rfl rfl rfl (Nat.le_trans (by decide) hd) (Nat.le_of_ble_eq_true rfl) (T_X11_bit (Nat.le_refl _) e1) rfl ?_
        refine st_iconst (pc := 25) (v := (1 : Int32)) dX1_coverOf_25 rfl ?_
        refine bd_icmp_ne (pc := 26) (tgt := 39) hq dX1_coverOf_26 (by decide) (fun _ hq => ?_) (fun _ hq => ?_)
        ·
          refine st_aload_n (pc := 29) dX1_coverOf_29 rfl ?_
          refine bd_getr (pc := 30) hq dX1_coverOf_30 fl_1_31_1 rfl (fun v2 hq => ?_)
          refine st_iload (pc := 33) dX1_coverOf_33 rfl ?_
          refine bd_iald (pc := 35) hq dX1_coverOf_35 (fun v3 hq => ?_)
          refine st_goto (pc := 36) (tgt := 40) dX1_coverOf_36 (by decide) ?_
          refine st_lesS (lv' := [some (.ref l0), some (.int l1), some (.int l2), none, some (.int l4), none]) ⟨Or.inr rfl, Or.inr rfl, Or.inr rfl, Or.inl rfl, Or.inr rfl, Or.inr rfl, trivial⟩ ?_
          exact T_X1_coverOf_40 hd ih hq
        ·
          refine st_iload_n (pc := 39) dX1_coverOf_39 rfl ?_
          refine st_lesS (lv' := [some (.ref l0), some (.int l1), some (.int l2), none, some (.int l4), none]) ⟨Or.inr rfl, Or.inr rfl, Or.inr rfl, Or.inl rfl, Or.inr rfl, Or.inr rfl, trivial⟩ ?_
          exact T_X1_coverOf_40 hd ih hq
def D_X1_coverOf (N : Nat) (h : mh_H) (l0 : Nat) (l1 : Int32) (l2 : Int32) : Option (Int32 × mh_H) :=
  D_X1_coverOf_6 N N h l0 l1 l2 (31 : Int32) (0 : Int32)
set_option maxHeartbeats 4000000 in
set_option maxRecDepth 100000 in
theorem T_X1_coverOf {P : mh_E → Prop} {N d : Nat} (hd : 2 ≤ d) {z : (Int32 × mh_H)} {h : mh_H} {l0 : Nat} {l1 : Int32} {l2 : Int32} (hq : D_X1_coverOf N h l0 l1 l2 = some z) : mh_go P d mX1_coverOf 0 [some (.ref l0), some (.int l1), some (.int l2), none, none, none] [] h (some (.int z.1)) z.2 := by
  unfold D_X1_coverOf at hq
  refine st_bipush (pc := 0) (v := (31 : Int32)) dX1_coverOf_0 (by decide) ?_
  refine st_istore_n (pc := 2) (lv' := [some (.ref l0), some (.int l1), some (.int l2), some (.int (31 : Int32)), none, none]) dX1_coverOf_2 rfl (by decide) rfl ?_
  refine st_iconst (pc := 3) (v := (0 : Int32)) dX1_coverOf_3 rfl ?_
  refine st_istore (pc := 4) (lv' := [some (.ref l0), some (.int l1), some (.int l2), some (.int (31 : Int32)), some (.int (0 : Int32)), none]) dX1_coverOf_4 rfl (by decide) rfl ?_
  exact T_X1_coverOf_6 hd N _ _ _ _ _ _ hq
-- HoleWater$Looks.findSides(II)I
theorem dX1_findSides_128 : decode cX1_findSides 128 = .ok (.iinc 7 1, 3) := by decide +kernel
theorem dX1_findSides_131 : decode cX1_findSides 131 = .ok (.goto (-86), 3) := by decide +kernel
theorem dX1_findSides_123 : decode cX1_findSides 123 = .ok (.ior, 1) := by decide +kernel
theorem dX1_findSides_124 : decode cX1_findSides 124 = .ok (.istore_n 3, 1) := by decide +kernel
theorem dX1_findSides_125 : decode cX1_findSides 125 = .ok (.iinc 6 1, 3) := by decide +kernel
theorem dX1_findSides_101 : decode cX1_findSides 101 = .ok (.ior, 1) := by decide +kernel
theorem dX1_findSides_102 : decode cX1_findSides 102 = .ok (.iastore, 1) := by decide +kernel
theorem dX1_findSides_103 : decode cX1_findSides 103 = .ok (.iload_n 3, 1) := by decide +kernel
theorem dX1_findSides_104 : decode cX1_findSides 104 = .ok (.iload 8, 2) := by decide +kernel
theorem dX1_findSides_106 : decode cX1_findSides 106 = .ok (.iconst 3, 1) := by decide +kernel
theorem dX1_findSides_107 : decode cX1_findSides 107 = .ok (.if_icmp .ne 15, 3) := by decide +kernel
theorem dX1_findSides_110 : decode cX1_findSides 110 = .ok (.iconst 1, 1) := by decide +kernel
theorem dX1_findSides_111 : decode cX1_findSides 111 = .ok (.iload 4, 2) := by decide +kernel
theorem dX1_findSides_113 : decode cX1_findSides 113 = .ok (.iconst 5, 1) := by decide +kernel
theorem dX1_findSides_114 : decode cX1_findSides 114 = .ok (.imul, 1) := by decide +kernel
theorem dX1_findSides_115 : decode cX1_findSides 115 = .ok (.iload 6, 2) := by decide +kernel
theorem dX1_findSides_117 : decode cX1_findSides 117 = .ok (.iadd, 1) := by decide +kernel
theorem dX1_findSides_118 : decode cX1_findSides 118 = .ok (.ishl, 1) := by decide +kernel
theorem dX1_findSides_119 : decode cX1_findSides 119 = .ok (.goto 4, 3) := by decide +kernel
theorem dX1_findSides_122 : decode cX1_findSides 122 = .ok (.iconst 0, 1) := by decide +kernel
theorem dX1_findSides_137 : decode cX1_findSides 137 = .ok (.iinc 5 1, 3) := by decide +kernel
theorem dX1_findSides_140 : decode cX1_findSides 140 = .ok (.goto (-132), 3) := by decide +kernel
theorem dX1_findSides_134 : decode cX1_findSides 134 = .ok (.iinc 4 1, 3) := by decide +kernel
theorem dX1_findSides_45 : decode cX1_findSides 45 = .ok (.iload 7, 2) := by decide +kernel
theorem dX1_findSides_47 : decode cX1_findSides 47 = .ok (.bipush 16, 2) := by decide +kernel
theorem dX1_findSides_49 : decode cX1_findSides 49 = .ok (.if_icmp .ge 85, 3) := by decide +kernel
theorem dX1_findSides_52 : decode cX1_findSides 52 = .ok (.iload 6, 2) := by decide +kernel
theorem dX1_findSides_54 : decode cX1_findSides 54 = .ok (.iconst 5, 1) := by decide +kernel
theorem dX1_findSides_55 : decode cX1_findSides 55 = .ok (.if_icmp .ge 79, 3) := by decide +kernel
theorem dX1_findSides_58 : decode cX1_findSides 58 = .ok (.iload_n 2, 1) := by decide +kernel
theorem dX1_findSides_59 : decode cX1_findSides 59 = .ok (.iload 7, 2) := by decide +kernel
theorem dX1_findSides_61 : decode cX1_findSides 61 = .ok (.invokestatic 63, 3) := by decide +kernel
theorem dX1_findSides_64 : decode cX1_findSides 64 = .ok (.iconst 1, 1) := by decide +kernel
theorem dX1_findSides_65 : decode cX1_findSides 65 = .ok (.if_icmp .ne 63, 3) := by decide +kernel
theorem dX1_findSides_68 : decode cX1_findSides 68 = .ok (.aload_n 0, 1) := by decide +kernel
theorem dX1_findSides_69 : decode cX1_findSides 69 = .ok (.iload 5, 2) := by decide +kernel
theorem dX1_findSides_71 : decode cX1_findSides 71 = .ok (.iload 7, 2) := by decide +kernel
theorem dX1_findSides_73 : decode cX1_findSides 73 = .ok (.iconst 0, 1) := by decide +kernel
theorem dX1_findSides_74 : decode cX1_findSides 74 = .ok (.invokevirtual 103, 3) := by decide +kernel
theorem dX1_findSides_77 : decode cX1_findSides 77 = .ok (.istore 8, 2) := by decide +kernel
theorem dX1_findSides_79 : decode cX1_findSides 79 = .ok (.aload_n 0, 1) := by decide +kernel
theorem dX1_findSides_80 : decode cX1_findSides 80 = .ok (.getfield 31, 3) := by decide +kernel
theorem dX1_findSides_83 : decode cX1_findSides 83 = .ok (.iload 4, 2) := by decide +kernel
theorem dX1_findSides_85 : decode cX1_findSides 85 = .ok (.dup2, 1) := by decide +kernel
theorem dX1_findSides_86 : decode cX1_findSides 86 = .ok (.iaload, 1) := by decide +kernel
theorem dX1_findSides_87 : decode cX1_findSides 87 = .ok (.iload 8, 2) := by decide +kernel
theorem dX1_findSides_89 : decode cX1_findSides 89 = .ok (.iconst 1, 1) := by decide +kernel
theorem dX1_findSides_90 : decode cX1_findSides 90 = .ok (.if_icmp .ne 7, 3) := by decide +kernel
theorem dX1_findSides_93 : decode cX1_findSides 93 = .ok (.iconst 0, 1) := by decide +kernel
theorem dX1_findSides_94 : decode cX1_findSides 94 = .ok (.goto 7, 3) := by decide +kernel
theorem dX1_findSides_97 : decode cX1_findSides 97 = .ok (.iconst 1, 1) := by decide +kernel
theorem dX1_findSides_98 : decode cX1_findSides 98 = .ok (.iload 6, 2) := by decide +kernel
theorem dX1_findSides_100 : decode cX1_findSides 100 = .ok (.ishl, 1) := by decide +kernel
theorem dX1_findSides_8 : decode cX1_findSides 8 = .ok (.iload 5, 2) := by decide +kernel
theorem dX1_findSides_10 : decode cX1_findSides 10 = .ok (.bipush 16, 2) := by decide +kernel
theorem dX1_findSides_12 : decode cX1_findSides 12 = .ok (.if_icmp .ge 131, 3) := by decide +kernel
theorem dX1_findSides_143 : decode cX1_findSides 143 = .ok (.iload_n 3, 1) := by decide +kernel
theorem dX1_findSides_144 : decode cX1_findSides 144 = .ok (.ireturn, 1) := by decide +kernel
theorem dX1_findSides_15 : decode cX1_findSides 15 = .ok (.iload 4, 2) := by decide +kernel
theorem dX1_findSides_17 : decode cX1_findSides 17 = .ok (.iconst 5, 1) := by decide +kernel
theorem dX1_findSides_18 : decode cX1_findSides 18 = .ok (.if_icmp .ge 125, 3) := by decide +kernel
theorem dX1_findSides_21 : decode cX1_findSides 21 = .ok (.iload_n 1, 1) := by decide +kernel
theorem dX1_findSides_22 : decode cX1_findSides 22 = .ok (.iload 5, 2) := by decide +kernel
theorem dX1_findSides_24 : decode cX1_findSides 24 = .ok (.invokestatic 63, 3) := by decide +kernel
theorem dX1_findSides_27 : decode cX1_findSides 27 = .ok (.iconst 1, 1) := by decide +kernel
theorem dX1_findSides_28 : decode cX1_findSides 28 = .ok (.if_icmp .ne 109, 3) := by decide +kernel
theorem dX1_findSides_31 : decode cX1_findSides 31 = .ok (.iconst 0, 1) := by decide +kernel
theorem dX1_findSides_32 : decode cX1_findSides 32 = .ok (.istore 6, 2) := by decide +kernel
theorem dX1_findSides_34 : decode cX1_findSides 34 = .ok (.aload_n 0, 1) := by decide +kernel
theorem dX1_findSides_35 : decode cX1_findSides 35 = .ok (.getfield 31, 3) := by decide +kernel
theorem dX1_findSides_38 : decode cX1_findSides 38 = .ok (.iload 4, 2) := by decide +kernel
theorem dX1_findSides_40 : decode cX1_findSides 40 = .ok (.iconst 0, 1) := by decide +kernel
theorem dX1_findSides_41 : decode cX1_findSides 41 = .ok (.iastore, 1) := by decide +kernel
theorem dX1_findSides_42 : decode cX1_findSides 42 = .ok (.iconst 0, 1) := by decide +kernel
theorem dX1_findSides_43 : decode cX1_findSides 43 = .ok (.istore 7, 2) := by decide +kernel
theorem dX1_findSides_0 : decode cX1_findSides 0 = .ok (.iconst 0, 1) := by decide +kernel
theorem dX1_findSides_1 : decode cX1_findSides 1 = .ok (.istore_n 3, 1) := by decide +kernel
theorem dX1_findSides_2 : decode cX1_findSides 2 = .ok (.iconst 0, 1) := by decide +kernel
theorem dX1_findSides_3 : decode cX1_findSides 3 = .ok (.istore 4, 2) := by decide +kernel
theorem dX1_findSides_5 : decode cX1_findSides 5 = .ok (.iconst 0, 1) := by decide +kernel
theorem dX1_findSides_6 : decode cX1_findSides 6 = .ok (.istore 5, 2) := by decide +kernel
def D_X1_findSides_128 (N : Nat) (k8 : mh_H → Nat → Int32 → Int32 → Int32 → Int32 → Int32 → Option (Int32 × mh_H)) (k45 : mh_H → Nat → Int32 → Int32 → Int32 → Int32 → Int32 → Int32 → Int32 → Option (Int32 × mh_H)) (h : mh_H) (l0 : Nat) (l1 : Int32) (l2 : Int32) (l3 : Int32) (l4 : Int32) (l5 : Int32) (l6 : Int32) (l7 : Int32) : Option (Int32 × mh_H) :=
  k45 h l0 l1 l2 l3 l4 l5 l6 (l7 + Int32.ofInt (1))
set_option maxHeartbeats 4000000 in
set_option maxRecDepth 100000 in
theorem T_X1_findSides_128 {P : mh_E → Prop} {N d : Nat} (hd : 4 ≤ d) {z : (Int32 × mh_H)} {k8 : mh_H → Nat → Int32 → Int32 → Int32 → Int32 → Int32 → Option (Int32 × mh_H)} (hk8 : ∀ (h : mh_H) (l0 : Nat) (l1 : Int32) (l2 : Int32) (l3 : Int32) (l4 : Int32) (l5 : Int32), k8 h l0 l1 l2 l3 l4 l5 = some z → mh_go P d mX1_findSides 8 [some (.ref l0), some (.int l1), some (.int l2), some (.int l3), some (.int l4), some (.int l5), none, none, none] [] h (some (.int z.1)) z.2) {k45 : mh_H → Nat → Int32 → Int32 → Int32 → Int32 → Int32 → Int32 → Int32 → Option (Int32 × mh_H)} (hk45 : ∀ (h : mh_H) (l0 : Nat) (l1 : Int32) (l2 : Int32) (l3 : Int32) (l4 : Int32) (l5 : Int32) (l6 : Int32) (l7 : Int32), k45 h l0 l1 l2 l3 l4 l5 l6 l7 = some z → mh_go P d mX1_findSides 45 [some (.ref l0), some (.int l1), some (.int l2), some (.int l3), some (.int l4), some (.int l5), some (.int l6), some (.int l7), none] [] h (some (.int z.1)) z.2) {h : mh_H} {l0 : Nat} {l1 : Int32} {l2 : Int32} {l3 : Int32} {l4 : Int32} {l5 : Int32} {l6 : Int32} {l7 : Int32} (hq : D_X1_findSides_128 N k8 k45 h l0 l1 l2 l3 l4 l5 l6 l7 = some z) : mh_go P d mX1_findSides 128 [some (.ref l0), some (.int l1), some (.int l2), some (.int l3), some (.int l4), some (.int l5), some (.int l6), some (.int l7), none] [] h (some (.int z.1)) z.2 := by
  unfold D_X1_findSides_128 at hq
  refine st_iinc (pc := 128) (lv' := [some (.ref l0), some (.int l1), some (.int l2), some (.int l3), some (.int l4), some (.int l5), some (.int l6), some (.int (l7 + Int32.ofInt (1))), none]) dX1_findSides_128 rfl rfl (by decide) rfl ?_
  refine st_goto (pc := 131) (tgt := 45) dX1_findSides_131 (by decide) ?_
  exact hk45 _ _ _ _ _ _ _ _ _ hq
def D_X1_findSides_123 (N : Nat) (k8 : mh_H → Nat → Int32 → Int32 → Int32 → Int32 → Int32 → Option (Int32 × mh_H)) (k45 : mh_H → Nat → Int32 → Int32 → Int32 → Int32 → Int32 → Int32 → Int32 → Option (Int32 × mh_H)) (h : mh_H) (l0 : Nat) (l1 : Int32) (l2 : Int32) (l4 : Int32) (l5 : Int32) (l6 : Int32) (l7 : Int32) (s0 : Int32) (s1 : Int32) : Option (Int32 × mh_H) :=
  D_X1_findSides_128 N k8 k45 h l0 l1 l2 (s0 ||| s1) l4 l5 (l6 + Int32.ofInt (1)) l7
set_option maxHeartbeats 4000000 in
set_option maxRecDepth 100000 in
theorem T_X1_findSides_123 {P : mh_E → Prop} {N d : Nat} (hd : 4 ≤ d) {z : (Int32 × mh_H)} {k8 : mh_H → Nat → Int32 → Int32 → Int32 → Int32 → Int32 → Option (Int32 × mh_H)} (hk8 : ∀ (h : mh_H) (l0 : Nat) (l1 : Int32) (l2 : Int32) (l3 : Int32) (l4 : Int32) (l5 : Int32), k8 h l0 l1 l2 l3 l4 l5 = some z → mh_go P d mX1_findSides 8 [some (.ref l0), some (.int l1), some (.int l2), some (.int l3), some (.int l4), some (.int l5), none, none, none] [] h (some (.int z.1)) z.2) {k45 : mh_H → Nat → Int32 → Int32 → Int32 → Int32 → Int32 → Int32 → Int32 → Option (Int32 × mh_H)} (hk45 : ∀ (h : mh_H) (l0 : Nat) (l1 : Int32) (l2 : Int32) (l3 : Int32) (l4 : Int32) (l5 : Int32) (l6 : Int32) (l7 : Int32), k45 h l0 l1 l2 l3 l4 l5 l6 l7 = some z → mh_go P d mX1_findSides 45 [some (.ref l0), some (.int l1), some (.int l2), some (.int l3), some (.int l4), some (.int l5), some (.int l6), some (.int l7), none] [] h (some (.int z.1)) z.2) {h : mh_H} {l0 : Nat} {l1 : Int32} {l2 : Int32} {l4 : Int32} {l5 : Int32} {l6 : Int32} {l7 : Int32} {s0 : Int32} {s1 : Int32} (hq : D_X1_findSides_123 N k8 k45 h l0 l1 l2 l4 l5 l6 l7 s0 s1 = some z) : mh_go P d mX1_findSides 123 [some (.ref l0), some (.int l1), some (.int l2), none, some (.int l4), some (.int l5), some (.int l6), some (.int l7), none] [.int s1, .int s0] h (some (.int z.1)) z.2 := by
  unfold D_X1_findSides_123 at hq
  refine st_ior (pc := 123) dX1_findSides_123 ?_
  refine st_istore_n (pc := 124) (lv' := [some (.ref l0), some (.int l1), some (.int l2), some (.int (s0 ||| s1)), some (.int l4), some (.int l5), some (.int l6), some (.int l7), none]) dX1_findSides_124 rfl (by decide) rfl ?_
  refine st_iinc (pc := 125) (lv' := [some (.ref l0), some (.int l1), some (.int l2), some (.int (s0 ||| s1)), some (.int l4), some (.int l5), some (.int (l6 + Int32.ofInt (1))), some (.int l7), none]) dX1_findSides_125 rfl rfl (by decide) rfl ?_
  exact T_X1_findSides_128 hd hk8 hk45 hq
def D_X1_findSides_101 (N : Nat) (k8 : mh_H → Nat → Int32 → Int32 → Int32 → Int32 → Int32 → Option (Int32 × mh_H)) (k45 : mh_H → Nat → Int32 → Int32 → Int32 → Int32 → Int32 → Int32 → Int32 → Option (Int32 × mh_H)) (h : mh_H) (l0 : Nat) (l1 : Int32) (l2 : Int32) (l3 : Int32) (l4 : Int32) (l5 : Int32) (l6 : Int32) (l7 : Int32) (l8 : Int32) (s0 : Nat) (s1 : Int32) (s2 : Int32) (s3 : Int32) : Option (Int32 × mh_H) :=
  (uI h s0 s1 (s2 ||| s3)).bind fun h1 =>
  if l8 = (3 : Int32) then (D_X1_findSides_123 N k8 k45 h1 l0 l1 l2 l4 l5 l6 l7 l3 ((1 : Int32) <<< (((l4 * (5 : Int32)) + l6) &&& 31)))
  else (D_X1_findSides_123 N k8 k45 h1 l0 l1 l2 l4 l5 l6 l7 l3 (0 : Int32))
set_option maxHeartbeats 4000000 in
set_option maxRecDepth 100000 in
theorem T_X1_findSides_101 {P : mh_E → Prop} {N d : Nat} (hd : 4 ≤ d) {z : (Int32 × mh_H)} {k8 : mh_H → Nat → Int32 → Int32 → Int32 → Int32 → Int32 → Option (Int32 × mh_H)} (hk8 : ∀ (h : mh_H) (l0 : Nat) (l1 : Int32) (l2 : Int32) (l3 : Int32) (l4 : Int32) (l5 : Int32), k8 h l0 l1 l2 l3 l4 l5 = some z → mh_go P d mX1_findSides 8 [some (.ref l0), some (.int l1), some (.int l2), some (.int l3), some (.int l4), some (.int l5), none, none, none] [] h (some (.int z.1)) z.2) {k45 : mh_H → Nat → Int32 → Int32 → Int32 → Int32 → Int32 → Int32 → Int32 → Option (Int32 × mh_H)} (hk45 : ∀ (h : mh_H) (l0 : Nat) (l1 : Int32) (l2 : Int32) (l3 : Int32) (l4 : Int32) (l5 : Int32) (l6 : Int32) (l7 : Int32), k45 h l0 l1 l2 l3 l4 l5 l6 l7 = some z → mh_go P d mX1_findSides 45 [some (.ref l0), some (.int l1), some (.int l2), some (.int l3), some (.int l4), some (.int l5), some (.int l6), some (.int l7), none] [] h (some (.int z.1)) z.2) {h : mh_H} {l0 : Nat} {l1 : Int32} {l2 : Int32} {l3 : Int32} {l4 : Int32} {l5 : Int32} {l6 : Int32} {l7 : Int32} {l8 : Int32} {s0 : Nat} {s1 : Int32} {s2 : Int32} {s3 : Int32} (hq : D_X1_findSides_101 N k8 k45 h l0 l1 l2 l3 l4 l5 l6 l7 l8 s0 s1 s2 s3 = some z) : mh_go P d mX1_findSides 101 [some (.ref l0), some (.int l1), some (.int l2), some (.int l3), some (.int l4), some (.int l5), some (.int l6), some (.int l7), some (.int l8)] [.int s3, .int s2, .int s1, .ref s0] h (some (.int z.1)) z.2 := by
  unfold D_X1_findSides_101 at hq
  refine st_ior (pc := 101) dX1_findSides_101 ?_
  refine bd_iast (pc := 102) hq dX1_findSides_102 (fun h1 hq => ?_)
  refine st_iload_n (pc := 103) dX1_findSides_103 rfl ?_
  refine st_iload (pc := 104) dX1_findSides_104 rfl ?_
  refine st_iconst (pc := 106) (v := (3 : Int32)) dX1_findSides_106 rfl ?_
  refine bd_icmp_ne (pc := 107) (tgt := 122) hq dX1_findSides_107 (by decide) (fun _ hq => ?_) (fun _ hq => ?_)
  ·
    refine st_iconst (pc := 110) (v := (1 : Int32)) dX1_findSides_110 rfl ?_
    refine st_iload (pc := 111) dX1_findSides_111 rfl ?_
    refine st_iconst (pc := 113) (v := (5 : Int32)) dX1_findSides_113 rfl ?_
    refine st_imul (pc := 114) dX1_findSides_114 ?_
    refine st_iload (pc := 115) dX1_findSides_115 rfl ?_
    refine st_iadd (pc := 117) dX1_findSides_117 ?_
    refine st_ishl (pc := 118) dX1_findSides_118 ?_
    refine st_goto (pc := 119) (tgt := 123) dX1_findSides_119 (by decide) ?_
    refine st_lesS (lv' := [some (.ref l0), some (.int l1), some (.int l2), none, some (.int l4), some (.int l5), some (.int l6), some (.int l7), none]) ⟨Or.inr rfl, Or.inr rfl, Or.inr rfl, Or.inl rfl, Or.inr rfl, Or.inr rfl, Or.inr rfl, Or.inr rfl, Or.inl rfl, trivial⟩ ?_
    exact T_X1_findSides_123 hd hk8 hk45 hq
  ·
    refine st_iconst (pc := 122) (v := (0 : Int32)) dX1_findSides_122 rfl ?_
    refine st_lesS (lv' := [some (.ref l0), some (.int l1), some (.int l2), none, some (.int l4), some (.int l5), some (.int l6), some (.int l7), none]) ⟨Or.inr rfl, Or.inr rfl, Or.inr rfl, Or.inl rfl, Or.inr rfl, Or.inr rfl, Or.inr rfl, Or.inr rfl, Or.inl rfl, trivial⟩ ?_
    exact T_X1_findSides_123 hd hk8 hk45 hq
def D_X1_findSides_137 (N : Nat) (k8 : mh_H → Nat → Int32 → Int32 → Int32 → Int32 → Int32 → Option (Int32 × mh_H)) (h : mh_H) (l0 : Nat) (l1 : Int32) (l2 : Int32) (l3 : Int32) (l4 : Int32) (l5 : Int32) : Option (Int32 × mh_H) :=
  k8 h l0 l1 l2 l3 l4 (l5 + Int32.ofInt (1))
set_option maxHeartbeats 4000000 in
set_option maxRecDepth 100000 in
theorem T_X1_findSides_137 {P : mh_E → Prop} {N d : Nat} (hd : 4 ≤ d) {z : (Int32 × mh_H)} {k8 : mh_H → Nat → Int32 → Int32 → Int32 → Int32 → Int32 → Option (Int32 × mh_H)} (hk8 : ∀ (h : mh_H) (l0 : Nat) (l1 : Int32) (l2 : Int32) (l3 : Int32) (l4 : Int32) (l5 : Int32), k8 h l0 l1 l2 l3 l4 l5 = some z → mh_go P d mX1_findSides 8 [some (.ref l0), some (.int l1), some (.int l2), some (.int l3), some (.int l4), some (.int l5), none, none, none] [] h (some (.int z.1)) z.2) {h : mh_H} {l0 : Nat} {l1 : Int32} {l2 : Int32} {l3 : Int32} {l4 : Int32} {l5 : Int32} (hq : D_X1_findSides_137 N k8 h l0 l1 l2 l3 l4 l5 = some z) : mh_go P d mX1_findSides 137 [some (.ref l0), some (.int l1), some (.int l2), some (.int l3), some (.int l4), some (.int l5), none, none, none] [] h (some (.int z.1)) z.2 := by
  unfold D_X1_findSides_137 at hq
  refine st_iinc (pc := 137) (lv' := [some (.ref l0), some (.int l1), some (.int l2), some (.int l3), some (.int l4), some (.int (l5 + Int32.ofInt (1))), none, none, none]) dX1_findSides_137 rfl rfl (by decide) rfl ?_
  refine st_goto (pc := 140) (tgt := 8) dX1_findSides_140 (by decide) ?_
  exact hk8 _ _ _ _ _ _ _ hq
def D_X1_findSides_134 (N : Nat) (k8 : mh_H → Nat → Int32 → Int32 → Int32 → Int32 → Int32 → Option (Int32 × mh_H)) (h : mh_H) (l0 : Nat) (l1 : Int32) (l2 : Int32) (l3 : Int32) (l4 : Int32) (l5 : Int32) : Option (Int32 × mh_H) :=
  D_X1_findSides_137 N k8 h l0 l1 l2 l3 (l4 + Int32.ofInt (1)) l5
set_option maxHeartbeats 4000000 in
set_option maxRecDepth 100000 in
theorem T_X1_findSides_134 {P : mh_E → Prop} {N d : Nat} (hd : 4 ≤ d) {z : (Int32 × mh_H)} {k8 : mh_H → Nat → Int32 → Int32 → Int32 → Int32 → Int32 → Option (Int32 × mh_H)} (hk8 : ∀ (h : mh_H) (l0 : Nat) (l1 : Int32) (l2 : Int32) (l3 : Int32) (l4 : Int32) (l5 : Int32), k8 h l0 l1 l2 l3 l4 l5 = some z → mh_go P d mX1_findSides 8 [some (.ref l0), some (.int l1), some (.int l2), some (.int l3), some (.int l4), some (.int l5), none, none, none] [] h (some (.int z.1)) z.2) {h : mh_H} {l0 : Nat} {l1 : Int32} {l2 : Int32} {l3 : Int32} {l4 : Int32} {l5 : Int32} (hq : D_X1_findSides_134 N k8 h l0 l1 l2 l3 l4 l5 = some z) : mh_go P d mX1_findSides 134 [some (.ref l0), some (.int l1), some (.int l2), some (.int l3), some (.int l4), some (.int l5), none, none, none] [] h (some (.int z.1)) z.2 := by
  unfold D_X1_findSides_134 at hq
  refine st_iinc (pc := 134) (lv' := [some (.ref l0), some (.int l1), some (.int l2), some (.int l3), some (.int (l4 + Int32.ofInt (1))), some (.int l5), none, none, none]) dX1_findSides_134 rfl rfl (by decide) rfl ?_
  exact T_X1_findSides_137 hd hk8 hq
def D_X1_findSides_45 (N : Nat) (k8 : mh_H → Nat → Int32 → Int32 → Int32 → Int32 → Int32 → Option (Int32 × mh_H)) : Nat → mh_H → Nat → Int32 → Int32 → Int32 → Int32 → Int32 → Int32 → Int32 → Option (Int32 × mh_H)
  | 0, _, _, _, _, _, _, _, _, _ => none
  | F + 1, h, l0, l1, l2, l3, l4, l5, l6, l7 =>
    if (16 : Int32) ≤ l7 then (D_X1_findSides_134 N k8 h l0 l1 l2 l3 l4 l5)
    else (if (5 : Int32) ≤ l6 then (D_X1_findSides_134 N k8 h l0 l1 l2 l3 l4 l5)
    else ((D_X11_bit N h l2 l7).bind fun q1 =>
    if q1.1 = (1 : Int32) then (kO q1.2 1 l0 <|
    (D_X1_said N q1.2 l0 l5 l7 (0 : Int32)).bind fun q2 =>
    (gR q2.2 1 l0 6).bind fun v3 =>
    (aI q2.2 v3 l4).bind fun v4 =>
    if q2.1 = (1 : Int32) then (D_X1_findSides_101 N k8 (D_X1_findSides_45 N k8 F) q2.2 l0 l1 l2 l3 l4 l5 l6 l7 q2.1 v3 l4 v4 (0 : Int32))
    else (D_X1_findSides_101 N k8 (D_X1_findSides_45 N k8 F) q2.2 l0 l1 l2 l3 l4 l5 l6 l7 q2.1 v3 l4 v4 ((1 : Int32) <<< (l6 &&& 31))))
    else (D_X1_findSides_128 N k8 (D_X1_findSides_45 N k8 F) q1.2 l0 l1 l2 l3 l4 l5 l6 l7)))
set_option maxHeartbeats 4000000 in
set_option maxRecDepth 100000 in
theorem T_X1_findSides_45 {P : mh_E → Prop} {N d : Nat} (hd : 4 ≤ d) {z : (Int32 × mh_H)} {k8 : mh_H → Nat → Int32 → Int32 → Int32 → Int32 → Int32 → Option (Int32 × mh_H)} (hk8 : ∀ (h : mh_H) (l0 : Nat) (l1 : Int32) (l2 : Int32) (l3 : Int32) (l4 : Int32) (l5 : Int32), k8 h l0 l1 l2 l3 l4 l5 = some z → mh_go P d mX1_findSides 8 [some (.ref l0), some (.int l1), some (.int l2), some (.int l3), some (.int l4), some (.int l5), none, none, none] [] h (some (.int z.1)) z.2) : ∀ (F : Nat) (h : mh_H) (l0 : Nat) (l1 : Int32) (l2 : Int32) (l3 : Int32) (l4 : Int32) (l5 : Int32) (l6 : Int32) (l7 : Int32), D_X1_findSides_45 N k8 F h l0 l1 l2 l3 l4 l5 l6 l7 = some z → mh_go P d mX1_findSides 45 [some (.ref l0), some (.int l1), some (.int l2), some (.int l3), some (.int l4), some (.int l5), some (.int l6), some (.int l7), none] [] h (some (.int z.1)) z.2 := by
  intro F
  induction F with
  | zero => intro h l0 l1 l2 l3 l4 l5 l6 l7 hq; rw [D_X1_findSides_45] at hq; cases hq
  | succ F ih =>
    intro h l0 l1 l2 l3 l4 l5 l6 l7 hq
    rw [D_X1_findSides_45] at hq
    refine st_iload (pc := 45) dX1_findSides_45 rfl ?_
    refine st_bipush (pc := 47) (v := (16 : Int32)) dX1_findSides_47 (by decide) ?_
    refine bd_icmp_ge (pc := 49) (tgt := 134) hq dX1_findSides_49 (by decide) (fun _ hq => ?_) (fun _ hq => ?_)
    ·
      refine st_lesS (lv' := [some (.ref l0), some (.int l1), some (.int l2), some (.int l3), some (.int l4), some (.int l5), none, none, none]) ⟨Or.inr rfl, Or.inr rfl, Or.inr rfl, Or.inr rfl, Or.inr rfl, Or.inr rfl, Or.inl rfl, Or.inl rfl, Or.inr rfl, trivial⟩ ?_
      exact T_X1_findSides_134 hd hk8 hq
    ·
      refine st_iload (pc := 52) dX1_findSides_52 rfl ?_
      refine st_iconst (pc := 54) (v := (5 : Int32)) dX1_findSides_54 rfl ?_
      refine bd_icmp_ge (pc := 55) (tgt := 134) hq dX1_findSides_55 (by decide) (fun _ hq => ?_) (fun _ hq => ?_)
      ·
        refine st_lesS (lv' := [some (.ref l0), some (.int l1), some (.int l2), some (.int l3), some (.int l4), some (.int l5), none, none, none]) ⟨Or.inr rfl, Or.inr rfl, Or.inr rfl, Or.inr rfl, Or.inr rfl, Or.inr rfl, Or.inl rfl, Or.inl rfl, Or.inr rfl, trivial⟩ ?_
        exact T_X1_findSides_134 hd hk8 hq
      ·
        refine st_iload_n (pc := 58) dX1_findSides_58 rfl ?_
        refine st_iload (pc := 59) dX1_findSides_59 rfl ?_
        obtain ⟨q1, e1, hq⟩ := mh_ob hq
        refine st_invSN (pc := 61) (Y := mX11_bit) (vs := [.int l2, .int l7]) (rest := []) (st2 := [.int q1.1]) dX1_findSides_61 okX11_bit wn_891 wd_344 pdX11_bit rfl rfl rfl rfl (Nat.le_trans (by decide) hd) (Nat.le_of_ble_eq_true rfl) (T_X11_bit (Nat.le_refl _) e1) rfl ?_
        refine st_iconst (pc := 64) (v := (1 : Int32)) dX1_findSides_64 rfl ?_
        refine bd_icmp_ne (pc := 65) (tgt := 128) hq dX1_findSides_65 (by decide) (fun _ hq => ?_) (fun _ hq => ?_)
        ·
          refine st_aload_n (pc := 68) dX1_findSides_68 rfl ?_
          refine st_iload (pc := 69) dX1_findSides_69 rfl ?_
          refine st_iload (pc := 71) dX1_findSides_71 rfl ?_
          refine st_iconst (pc := 73) (v := (0 : Int32)) dX1_findSides_73 rfl ?_
          obtain ⟨⟨hbq2, hkq2⟩, hq⟩ := mh_oi hq
          obtain ⟨q2, e2, hq⟩ := mh_ob hq
          refine st_invV (pc := 74) (ci := 1) (vs := [.int l5, .int l7, .int (0 : Int32)]) (rest := []) (st2 := [.int q2.1]) dX1_findSides_74 okX1_said (by decide) hkq2 hbq2 wd_961 wd_880 wd_881 pdX1_said rfl rfl rfl rfl (Nat.le_trans (by decide) hd) (Nat.le_of_ble_eq_true rfl) (T_X1_said (Nat.le_refl _) e2) rfl ?_
          refine st_istore (pc := 77) (lv' := [some (.ref l0), some (.int l1), some (.int l2), some (.int l3), some (.int l4), some (.int l5), some (.int l6), some (.int l7), some (.int q2.1)]) dX1_findSides_77 rfl (by decide) rfl ?_
          refine st_aload_n (pc := 79) dX1_findSides_79 rfl ?_
          refine bd_getr (pc := 80) hq dX1_findSides_80 fl_1_31_1 rfl (fun v3 hq => ?_)
          refine st_iload (pc := 83) dX1_findSides_83 rfl ?_
          refine st_dup2 (pc := 85) dX1_findSides_85 rfl rfl ?_
          refine bd_iald (pc := 86) hq dX1_findSides_86 (fun v4 hq => ?_)
          refine st_iload (pc := 87) dX1_findSides_87 rfl ?_
          refine st_iconst (pc := 89) (v := (1 : Int32)) dX1_findSides_89 rfl ?_
          refine bd_icmp_ne (pc := 90) (tgt := 97) hq dX1_findSides_90 (by decide) (fun _ hq => ?_) (fun _ hq => ?_)
          ·
            refine st_iconst (pc := 93) (v := (0 : Int32)) dX1_findSides_93 rfl ?_
            refine st_goto (pc := 94) (tgt := 101) dX1_findSides_94 (by decide) ?_
            exact T_X1_findSides_101 hd hk8 ih hq
          ·
            refine st_iconst (pc := 97) (v := (1 : Int32)) dX1_findSides_97 rfl ?_
            refine st_iload (pc := 98) dX1_findSides_98 rfl ?_
            refine st_ishl (pc := 100) dX1_findSides_100 ?_
            exact T_X1_findSides_101 hd hk8 ih hq
        ·
          exact T_X1_findSides_128 hd hk8 ih hq
def D_X1_findSides_8 (N : Nat) : Nat → mh_H → Nat → Int32 → Int32 → Int32 → Int32 → Int32 → Option (Int32 × mh_H)
  | 0, _, _, _, _, _, _, _ => none
  | F + 1, h, l0, l1, l2, l3, l4, l5 =>
    if (16 : Int32) ≤ l5 then (some (l3, h))
    else (if (5 : Int32) ≤ l4 then (some (l3, h))
    else ((D_X11_bit N h l1 l5).bind fun q1 =>
    if q1.1 = (1 : Int32) then ((gR q1.2 1 l0 6).bind fun v2 =>
    (uI q1.2 v2 l4 (0 : Int32)).bind fun h3 =>
    D_X1_findSides_45 N (D_X1_findSides_8 N F) N h3 l0 l1 l2 l3 l4 l5 (0 : Int32) (0 : Int32))
    else (D_X1_findSides_137 N (D_X1_findSides_8 N F) q1.2 l0 l1 l2 l3 l4 l5)))
set_option maxHeartbeats 4000000 in
set_option maxRecDepth 100000 in
theorem T_X1_findSides_8 {P : mh_E → Prop} {N d : Nat} (hd : 4 ≤ d) {z : (Int32 × mh_H)} : ∀ (F : Nat) (h : mh_H) (l0 : Nat) (l1 : Int32) (l2 : Int32) (l3 : Int32) (l4 : Int32) (l5 : Int32), D_X1_findSides_8 N F h l0 l1 l2 l3 l4 l5 = some z → mh_go P d mX1_findSides 8 [some (.ref l0), some (.int l1), some (.int l2), some (.int l3), some (.int l4), some (.int l5), none, none, none] [] h (some (.int z.1)) z.2 := by
  intro F
  induction F with
  | zero => intro h l0 l1 l2 l3 l4 l5 hq; rw [D_X1_findSides_8] at hq; cases hq
  | succ F ih =>
    intro h l0 l1 l2 l3 l4 l5 hq
    rw [D_X1_findSides_8] at hq
    refine st_iload (pc := 8) dX1_findSides_8 rfl ?_
    refine st_bipush (pc := 10) (v := (16 : Int32)) dX1_findSides_10 (by decide) ?_
    refine bd_icmp_ge (pc := 12) (tgt := 143) hq dX1_findSides_12 (by decide) (fun _ hq => ?_) (fun _ hq => ?_)
    ·
      refine st_iload_n (pc := 143) dX1_findSides_143 rfl ?_
      exact bd_iret (pc := 144) hq dX1_findSides_144 rfl
    ·
      refine st_iload (pc := 15) dX1_findSides_15 rfl ?_
      refine st_iconst (pc := 17) (v := (5 : Int32)) dX1_findSides_17 rfl ?_
      refine bd_icmp_ge (pc := 18) (tgt := 143) hq dX1_findSides_18 (by decide) (fun _ hq => ?_) (fun _ hq => ?_)
      ·
        refine st_iload_n (pc := 143) dX1_findSides_143 rfl ?_
        exact bd_iret (pc := 144) hq dX1_findSides_144 rfl
      ·
        refine st_iload_n (pc := 21) dX1_findSides_21 rfl ?_
        refine st_iload (pc := 22) dX1_findSides_22 rfl ?_
        obtain ⟨q1, e1, hq⟩ := mh_ob hq
        refine st_invSN (pc := 24) (Y := mX11_bit) (vs := [.int l1, .int l5]) (rest := []) (st2 := [.int q1.1]) dX1_findSides_24 okX11_bit wn_891 wd_344 pdX11_bit rfl rfl rfl rfl (Nat.le_trans (by decide) hd) (Nat.le_of_ble_eq_true rfl) (T_X11_bit (Nat.le_refl _) e1) rfl ?_
        refine st_iconst (pc := 27) (v := (1 : Int32)) dX1_findSides_27 rfl ?_
        refine bd_icmp_ne (pc := 28) (tgt := 137) hq dX1_findSides_28 (by decide) (fun _ hq => ?_) (fun _ hq => ?_)
        ·
          refine st_iconst (pc := 31) (v := (0 : Int32)) dX1_findSides_31 rfl ?_
          refine st_istore (pc := 32) (lv' := [some (.ref l0), some (.int l1), some (.int l2), some (.int l3), some (.int l4), some (.int l5), some (.int (0 : Int32)), none, none]) dX1_findSides_32 rfl (by decide) rfl ?_
          refine st_aload_n (pc := 34) dX1_findSides_34 rfl ?_
          refine bd_getr (pc := 35) hq dX1_findSides_35 fl_1_31_1 rfl (fun v2 hq => ?_)
          refine st_iload (pc := 38) dX1_findSides_38 rfl ?_
          refine st_iconst (pc := 40) (v := (0 : Int32)) dX1_findSides_40 rfl ?_
          refine bd_iast (pc := 41) hq dX1_findSides_41 (fun h3 hq => ?_)
          refine st_iconst (pc := 42) (v := (0 : Int32)) dX1_findSides_42 rfl ?_
          refine st_istore (pc := 43) (lv' := [some (.ref l0), some (.int l1), some (.int l2), some (.int l3), some (.int l4), some (.int l5), some (.int (0 : Int32)), some (.int (0 : Int32)), none]) dX1_findSides_43 rfl (by decide) rfl ?_
          exact T_X1_findSides_45 hd ih N _ _ _ _ _ _ _ _ _ hq
        ·
          exact T_X1_findSides_137 hd ih hq
def D_X1_findSides (N : Nat) (h : mh_H) (l0 : Nat) (l1 : Int32) (l2 : Int32) : Option (Int32 × mh_H) :=
  D_X1_findSides_8 N N h l0 l1 l2 (0 : Int32) (0 : Int32) (0 : Int32)
set_option maxHeartbeats 4000000 in
set_option maxRecDepth 100000 in
theorem T_X1_findSides {P : mh_E → Prop} {N d : Nat} (hd : 4 ≤ d) {z : (Int32 × mh_H)} {h : mh_H} {l0 : Nat} {l1 : Int32} {l2 : Int32} (hq : D_X1_findSides N h l0 l1 l2 = some z) : mh_go P d mX1_findSides 0 [some (.ref l0), some (.int l1), some (.int l2), none, none, none, none, none, none] [] h (some (.int z.1)) z.2 := by
  unfold D_X1_findSides at hq
  refine st_iconst (pc := 0) (v := (0 : Int32)) dX1_findSides_0 rfl ?_
  refine st_istore_n (pc := 1) (lv' := [some (.ref l0), some (.int l1), some (.int l2), some (.int (0 : Int32)), none, none, none, none, none]) dX1_findSides_1 rfl (by decide) rfl ?_
  refine st_iconst (pc := 2) (v := (0 : Int32)) dX1_findSides_2 rfl ?_
  refine st_istore (pc := 3) (lv' := [some (.ref l0), some (.int l1), some (.int l2), some (.int (0 : Int32)), some (.int (0 : Int32)), none, none, none, none]) dX1_findSides_3 rfl (by decide) rfl ?_
  refine st_iconst (pc := 5) (v := (0 : Int32)) dX1_findSides_5 rfl ?_
  refine st_istore (pc := 6) (lv' := [some (.ref l0), some (.int l1), some (.int l2), some (.int (0 : Int32)), some (.int (0 : Int32)), some (.int (0 : Int32)), none, none, none]) dX1_findSides_6 rfl (by decide) rfl ?_
  exact T_X1_findSides_8 hd N _ _ _ _ _ _ _ hq
-- java/lang/Integer.bitCount(I)I
theorem dJ6_bitCount_0f7a4_0 : decode cJ6_bitCount_0f7a4 0 = .ok (.iload_n 0, 1) := by decide +kernel
theorem dJ6_bitCount_0f7a4_1 : decode cJ6_bitCount_0f7a4 1 = .ok (.iload_n 0, 1) := by decide +kernel
theorem dJ6_bitCount_0f7a4_2 : decode cJ6_bitCount_0f7a4 2 = .ok (.iconst 1, 1) := by decide +kernel
theorem dJ6_bitCount_0f7a4_3 : decode cJ6_bitCount_0f7a4 3 = .ok (.iushr, 1) := by decide +kernel
theorem dJ6_bitCount_0f7a4_4 : decode cJ6_bitCount_0f7a4 4 = .ok (.ldc_w 265, 3) := by decide +kernel
theorem dJ6_bitCount_0f7a4_7 : decode cJ6_bitCount_0f7a4 7 = .ok (.iand, 1) := by decide +kernel
theorem dJ6_bitCount_0f7a4_8 : decode cJ6_bitCount_0f7a4 8 = .ok (.isub, 1) := by decide +kernel
theorem dJ6_bitCount_0f7a4_9 : decode cJ6_bitCount_0f7a4 9 = .ok (.istore_n 0, 1) := by decide +kernel
theorem dJ6_bitCount_0f7a4_10 : decode cJ6_bitCount_0f7a4 10 = .ok (.iload_n 0, 1) := by decide +kernel
theorem dJ6_bitCount_0f7a4_11 : decode cJ6_bitCount_0f7a4 11 = .ok (.ldc_w 266, 3) := by decide +kernel
theorem dJ6_bitCount_0f7a4_14 : decode cJ6_bitCount_0f7a4 14 = .ok (.iand, 1) := by decide +kernel
theorem dJ6_bitCount_0f7a4_15 : decode cJ6_bitCount_0f7a4 15 = .ok (.iload_n 0, 1) := by decide +kernel
theorem dJ6_bitCount_0f7a4_16 : decode cJ6_bitCount_0f7a4 16 = .ok (.iconst 2, 1) := by decide +kernel
theorem dJ6_bitCount_0f7a4_17 : decode cJ6_bitCount_0f7a4 17 = .ok (.iushr, 1) := by decide +kernel
theorem dJ6_bitCount_0f7a4_18 : decode cJ6_bitCount_0f7a4 18 = .ok (.ldc_w 266, 3) := by decide +kernel
theorem dJ6_bitCount_0f7a4_21 : decode cJ6_bitCount_0f7a4 21 = .ok (.iand, 1) := by decide +kernel
theorem dJ6_bitCount_0f7a4_22 : decode cJ6_bitCount_0f7a4 22 = .ok (.iadd, 1) := by decide +kernel
theorem dJ6_bitCount_0f7a4_23 : decode cJ6_bitCount_0f7a4 23 = .ok (.istore_n 0, 1) := by decide +kernel
theorem dJ6_bitCount_0f7a4_24 : decode cJ6_bitCount_0f7a4 24 = .ok (.iload_n 0, 1) := by decide +kernel
theorem dJ6_bitCount_0f7a4_25 : decode cJ6_bitCount_0f7a4 25 = .ok (.iload_n 0, 1) := by decide +kernel
theorem dJ6_bitCount_0f7a4_26 : decode cJ6_bitCount_0f7a4 26 = .ok (.iconst 4, 1) := by decide +kernel
theorem dJ6_bitCount_0f7a4_27 : decode cJ6_bitCount_0f7a4 27 = .ok (.iushr, 1) := by decide +kernel
theorem dJ6_bitCount_0f7a4_28 : decode cJ6_bitCount_0f7a4 28 = .ok (.iadd, 1) := by decide +kernel
theorem dJ6_bitCount_0f7a4_29 : decode cJ6_bitCount_0f7a4 29 = .ok (.ldc_w 267, 3) := by decide +kernel
theorem dJ6_bitCount_0f7a4_32 : decode cJ6_bitCount_0f7a4 32 = .ok (.iand, 1) := by decide +kernel
theorem dJ6_bitCount_0f7a4_33 : decode cJ6_bitCount_0f7a4 33 = .ok (.istore_n 0, 1) := by decide +kernel
theorem dJ6_bitCount_0f7a4_34 : decode cJ6_bitCount_0f7a4 34 = .ok (.iload_n 0, 1) := by decide +kernel
theorem dJ6_bitCount_0f7a4_35 : decode cJ6_bitCount_0f7a4 35 = .ok (.iload_n 0, 1) := by decide +kernel
theorem dJ6_bitCount_0f7a4_36 : decode cJ6_bitCount_0f7a4 36 = .ok (.bipush 8, 2) := by decide +kernel
theorem dJ6_bitCount_0f7a4_38 : decode cJ6_bitCount_0f7a4 38 = .ok (.iushr, 1) := by decide +kernel
theorem dJ6_bitCount_0f7a4_39 : decode cJ6_bitCount_0f7a4 39 = .ok (.iadd, 1) := by decide +kernel
theorem dJ6_bitCount_0f7a4_40 : decode cJ6_bitCount_0f7a4 40 = .ok (.istore_n 0, 1) := by decide +kernel
theorem dJ6_bitCount_0f7a4_41 : decode cJ6_bitCount_0f7a4 41 = .ok (.iload_n 0, 1) := by decide +kernel
theorem dJ6_bitCount_0f7a4_42 : decode cJ6_bitCount_0f7a4 42 = .ok (.iload_n 0, 1) := by decide +kernel
theorem dJ6_bitCount_0f7a4_43 : decode cJ6_bitCount_0f7a4 43 = .ok (.bipush 16, 2) := by decide +kernel
theorem dJ6_bitCount_0f7a4_45 : decode cJ6_bitCount_0f7a4 45 = .ok (.iushr, 1) := by decide +kernel
theorem dJ6_bitCount_0f7a4_46 : decode cJ6_bitCount_0f7a4 46 = .ok (.iadd, 1) := by decide +kernel
theorem dJ6_bitCount_0f7a4_47 : decode cJ6_bitCount_0f7a4 47 = .ok (.istore_n 0, 1) := by decide +kernel
theorem dJ6_bitCount_0f7a4_48 : decode cJ6_bitCount_0f7a4 48 = .ok (.iload_n 0, 1) := by decide +kernel
theorem dJ6_bitCount_0f7a4_49 : decode cJ6_bitCount_0f7a4 49 = .ok (.bipush 63, 2) := by decide +kernel
theorem dJ6_bitCount_0f7a4_51 : decode cJ6_bitCount_0f7a4 51 = .ok (.iand, 1) := by decide +kernel
theorem dJ6_bitCount_0f7a4_52 : decode cJ6_bitCount_0f7a4 52 = .ok (.ireturn, 1) := by decide +kernel
def D_J6_bitCount_0f7a4 (N : Nat) (h : mh_H) (l0 : Int32) : Option (Int32 × mh_H) :=
  mh_let (l0 - (((l0.toUInt32 >>> ((1 : Int32).toUInt32 &&& Int32.toUInt32 31)).toInt32) &&& (1431655765 : Int32))) fun v1 =>
  mh_let ((v1 &&& (858993459 : Int32)) + (((v1.toUInt32 >>> ((2 : Int32).toUInt32 &&& Int32.toUInt32 31)).toInt32) &&& (858993459 : Int32))) fun v2 =>
  mh_let ((v2 + ((v2.toUInt32 >>> ((4 : Int32).toUInt32 &&& Int32.toUInt32 31)).toInt32)) &&& (252645135 : Int32)) fun v3 =>
  mh_let (v3 + ((v3.toUInt32 >>> ((8 : Int32).toUInt32 &&& Int32.toUInt32 31)).toInt32)) fun v4 =>
  mh_let (v4 + ((v4.toUInt32 >>> ((16 : Int32).toUInt32 &&& Int32.toUInt32 31)).toInt32)) fun v5 =>
  some (v5 &&& (63 : Int32), h)
set_option maxHeartbeats 4000000 in
set_option maxRecDepth 100000 in
theorem T_J6_bitCount_0f7a4 {P : mh_E → Prop} {N d : Nat} (hd : 1 ≤ d) {z : (Int32 × mh_H)} {h : mh_H} {l0 : Int32} (hq : D_J6_bitCount_0f7a4 N h l0 = some z) : mh_go P d mJ6_bitCount_0f7a4 0 [some (.int l0)] [] h (some (.int z.1)) z.2 := by
  unfold D_J6_bitCount_0f7a4 at hq
  refine st_iload_n (pc := 0) dJ6_bitCount_0f7a4_0 rfl ?_
  refine st_iload_n (pc := 1) dJ6_bitCount_0f7a4_1 rfl ?_
  refine st_iconst (pc := 2) (v := (1 : Int32)) dJ6_bitCount_0f7a4_2 rfl ?_
  refine st_iushr (pc := 3) dJ6_bitCount_0f7a4_3 ?_
  refine st_ldcw (pc := 4) (v := (1431655765 : Int32)) dJ6_bitCount_0f7a4_4 wd_950 ?_
  refine st_iand (pc := 7) dJ6_bitCount_0f7a4_7 ?_
  refine st_isub (pc := 8) dJ6_bitCount_0f7a4_8 ?_
  refine bd_leti hq (fun v1 hq => ?_)
  refine st_istore_n (pc := 9) (lv' := [some (.int v1)]) dJ6_bitCount_0f7a4_9 rfl (by decide) rfl ?_
  refine st_iload_n (pc := 10) dJ6_bitCount_0f7a4_10 rfl ?_
  refine st_ldcw (pc := 11) (v := (858993459 : Int32)) dJ6_bitCount_0f7a4_11 wd_951 ?_
  refine st_iand (pc := 14) dJ6_bitCount_0f7a4_14 ?_
  refine st_iload_n (pc := 15) dJ6_bitCount_0f7a4_15 rfl ?_
  refine st_iconst (pc := 16) (v := (2 : Int32)) dJ6_bitCount_0f7a4_16 rfl ?_
  refine st_iushr (pc := 17) dJ6_bitCount_0f7a4_17 ?_
  refine st_ldcw (pc := 18) (v := (858993459 : Int32)) dJ6_bitCount_0f7a4_18 wd_951 ?_
  refine st_iand (pc := 21) dJ6_bitCount_0f7a4_21 ?_
  refine st_iadd (pc := 22) dJ6_bitCount_0f7a4_22 ?_
  refine bd_leti hq (fun v2 hq => ?_)
  refine st_istore_n (pc := 23) (lv' := [some (.int v2)]) dJ6_bitCount_0f7a4_23 rfl (by decide) rfl ?_
  refine st_iload_n (pc := 24) dJ6_bitCount_0f7a4_24 rfl ?_
  refine st_iload_n (pc := 25) dJ6_bitCount_0f7a4_25 rfl ?_
  refine st_iconst (pc := 26) (v := (4 : Int32)) dJ6_bitCount_0f7a4_26 rfl ?_
  refine st_iushr (pc := 27) dJ6_bitCount_0f7a4_27 ?_
  refine st_iadd (pc := 28) dJ6_bitCount_0f7a4_28 ?_
  refine st_ldcw (pc := 29) (v := (252645135 : Int32)) dJ6_bitCount_0f7a4_29 wd_952 ?_
  refine st_iand (pc := 32) dJ6_bitCount_0f7a4_32 ?_
  refine bd_leti hq (fun v3 hq => ?_)
  refine st_istore_n (pc := 33) (lv' := [some (.int v3)]) dJ6_bitCount_0f7a4_33 rfl (by decide) rfl ?_
  refine st_iload_n (pc := 34) dJ6_bitCount_0f7a4_34 rfl ?_
  refine st_iload_n (pc := 35) dJ6_bitCount_0f7a4_35 rfl ?_
  refine st_bipush (pc := 36) (v := (8 : Int32)) dJ6_bitCount_0f7a4_36 (by decide) ?_
  refine st_iushr (pc := 38) dJ6_bitCount_0f7a4_38 ?_
  refine st_iadd (pc := 39) dJ6_bitCount_0f7a4_39 ?_
  refine bd_leti hq (fun v4 hq => ?_)
  refine st_istore_n (pc := 40) (lv' := [some (.int v4)]) dJ6_bitCount_0f7a4_40 rfl (by decide) rfl ?_
  refine st_iload_n (pc := 41) dJ6_bitCount_0f7a4_41 rfl ?_
  refine st_iload_n (pc := 42) dJ6_bitCount_0f7a4_42 rfl ?_
  refine st_bipush (pc := 43) (v := (16 : Int32)) dJ6_bitCount_0f7a4_43 (by decide) ?_
  refine st_iushr (pc := 45) dJ6_bitCount_0f7a4_45 ?_
  refine st_iadd (pc := 46) dJ6_bitCount_0f7a4_46 ?_
  refine bd_leti hq (fun v5 hq => ?_)
  refine st_istore_n (pc := 47) (lv' := [some (.int v5)]) dJ6_bitCount_0f7a4_47 rfl (by decide) rfl ?_
  refine st_iload_n (pc := 48) dJ6_bitCount_0f7a4_48 rfl ?_
  refine st_bipush (pc := 49) (v := (63 : Int32)) dJ6_bitCount_0f7a4_49 (by decide) ?_
  refine st_iand (pc := 51) dJ6_bitCount_0f7a4_51 ?_
  exact bd_iret (pc := 52) hq dJ6_bitCount_0f7a4_52 rfl
-- HoleWater$Looks.fewestRooms(II)I
theorem dX1_fewestRooms_61 : decode cX1_fewestRooms 61 = .ok (.iload 5, 2) := by decide +kernel
theorem dX1_fewestRooms_63 : decode cX1_fewestRooms 63 = .ok (.iload 4, 2) := by decide +kernel
theorem dX1_fewestRooms_65 : decode cX1_fewestRooms 65 = .ok (.if_icmp .ge 22, 3) := by decide +kernel
theorem dX1_fewestRooms_87 : decode cX1_fewestRooms 87 = .ok (.iload 4, 2) := by decide +kernel
theorem dX1_fewestRooms_89 : decode cX1_fewestRooms 89 = .ok (.ireturn, 1) := by decide +kernel
theorem dX1_fewestRooms_68 : decode cX1_fewestRooms 68 = .ok (.aload_n 0, 1) := by decide +kernel
theorem dX1_fewestRooms_69 : decode cX1_fewestRooms 69 = .ok (.iload_n 3, 1) := by decide +kernel
theorem dX1_fewestRooms_70 : decode cX1_fewestRooms 70 = .ok (.iload 5, 2) := by decide +kernel
theorem dX1_fewestRooms_72 : decode cX1_fewestRooms 72 = .ok (.invokevirtual 100, 3) := by decide +kernel
theorem dX1_fewestRooms_75 : decode cX1_fewestRooms 75 = .ok (.ifCond .eq 6, 3) := by decide +kernel
theorem dX1_fewestRooms_81 : decode cX1_fewestRooms 81 = .ok (.iinc 5 1, 3) := by decide +kernel
theorem dX1_fewestRooms_84 : decode cX1_fewestRooms 84 = .ok (.goto (-23), 3) := by decide +kernel
theorem dX1_fewestRooms_78 : decode cX1_fewestRooms 78 = .ok (.iload 5, 2) := by decide +kernel
theorem dX1_fewestRooms_80 : decode cX1_fewestRooms 80 = .ok (.ireturn, 1) := by decide +kernel
theorem dX1_fewestRooms_10 : decode cX1_fewestRooms 10 = .ok (.iload 4, 2) := by decide +kernel
theorem dX1_fewestRooms_12 : decode cX1_fewestRooms 12 = .ok (.aload_n 0, 1) := by decide +kernel
theorem dX1_fewestRooms_13 : decode cX1_fewestRooms 13 = .ok (.getfield 34, 3) := by decide +kernel
theorem dX1_fewestRooms_16 : decode cX1_fewestRooms 16 = .ok (.arraylength, 1) := by decide +kernel
theorem dX1_fewestRooms_17 : decode cX1_fewestRooms 17 = .ok (.if_icmp .ge 28, 3) := by decide +kernel
theorem dX1_fewestRooms_45 : decode cX1_fewestRooms 45 = .ok (.iload_n 1, 1) := by decide +kernel
theorem dX1_fewestRooms_46 : decode cX1_fewestRooms 46 = .ok (.invokestatic 89, 3) := by decide +kernel
theorem dX1_fewestRooms_49 : decode cX1_fewestRooms 49 = .ok (.iload_n 2, 1) := by decide +kernel
theorem dX1_fewestRooms_50 : decode cX1_fewestRooms 50 = .ok (.invokestatic 89, 3) := by decide +kernel
theorem dX1_fewestRooms_53 : decode cX1_fewestRooms 53 = .ok (.invokestatic 97, 3) := by decide +kernel
theorem dX1_fewestRooms_56 : decode cX1_fewestRooms 56 = .ok (.istore 4, 2) := by decide +kernel
theorem dX1_fewestRooms_58 : decode cX1_fewestRooms 58 = .ok (.iconst 0, 1) := by decide +kernel
theorem dX1_fewestRooms_59 : decode cX1_fewestRooms 59 = .ok (.istore 5, 2) := by decide +kernel
theorem dX1_fewestRooms_20 : decode cX1_fewestRooms 20 = .ok (.aload_n 0, 1) := by decide +kernel
theorem dX1_fewestRooms_21 : decode cX1_fewestRooms 21 = .ok (.getfield 34, 3) := by decide +kernel
theorem dX1_fewestRooms_24 : decode cX1_fewestRooms 24 = .ok (.iload 4, 2) := by decide +kernel
theorem dX1_fewestRooms_26 : decode cX1_fewestRooms 26 = .ok (.aload_n 0, 1) := by decide +kernel
theorem dX1_fewestRooms_27 : decode cX1_fewestRooms 27 = .ok (.iload 4, 2) := by decide +kernel
theorem dX1_fewestRooms_29 : decode cX1_fewestRooms 29 = .ok (.iload_n 1, 1) := by decide +kernel
theorem dX1_fewestRooms_30 : decode cX1_fewestRooms 30 = .ok (.invokestatic 89, 3) := by decide +kernel
theorem dX1_fewestRooms_33 : decode cX1_fewestRooms 33 = .ok (.invokevirtual 94, 3) := by decide +kernel
theorem dX1_fewestRooms_36 : decode cX1_fewestRooms 36 = .ok (.iload_n 3, 1) := by decide +kernel
theorem dX1_fewestRooms_37 : decode cX1_fewestRooms 37 = .ok (.iand, 1) := by decide +kernel
theorem dX1_fewestRooms_38 : decode cX1_fewestRooms 38 = .ok (.iastore, 1) := by decide +kernel
theorem dX1_fewestRooms_39 : decode cX1_fewestRooms 39 = .ok (.iinc 4 1, 3) := by decide +kernel
theorem dX1_fewestRooms_42 : decode cX1_fewestRooms 42 = .ok (.goto (-32), 3) := by decide +kernel
theorem dX1_fewestRooms_0 : decode cX1_fewestRooms 0 = .ok (.aload_n 0, 1) := by decide +kernel
theorem dX1_fewestRooms_1 : decode cX1_fewestRooms 1 = .ok (.iload_n 1, 1) := by decide +kernel
theorem dX1_fewestRooms_2 : decode cX1_fewestRooms 2 = .ok (.iload_n 2, 1) := by decide +kernel
theorem dX1_fewestRooms_3 : decode cX1_fewestRooms 3 = .ok (.invokevirtual 86, 3) := by decide +kernel
theorem dX1_fewestRooms_6 : decode cX1_fewestRooms 6 = .ok (.istore_n 3, 1) := by decide +kernel
theorem dX1_fewestRooms_7 : decode cX1_fewestRooms 7 = .ok (.iconst 0, 1) := by decide +kernel
theorem dX1_fewestRooms_8 : decode cX1_fewestRooms 8 = .ok (.istore 4, 2) := by decide +kernel
def D_X1_fewestRooms_61 (N : Nat) : Nat → mh_H → Nat → Int32 → Int32 → Int32 → Option (Int32 × mh_H)
  | 0, _, _, _, _, _ => none
  | F + 1, h, l0, l3, l4, l5 =>
    if l4 ≤ l5 then (some (l4, h))
    else (kO h 1 l0 <|
    (D_X1_canCover N 12 h l0 l3 l5).bind fun q1 =>
    if q1.1 = 0 then ((D_X1_fewestRooms_61 N F) q1.2 l0 l3 l4 (l5 + Int32.ofInt (1)))
    else (some (l5, q1.2)))
set_option maxHeartbeats 4000000 in
set_option maxRecDepth 100000 in
theorem T_X1_fewestRooms_61 {P : mh_E → Prop} {N d : Nat} (hd : 14 ≤ d) {z : (Int32 × mh_H)} : ∀ (F : Nat) (h : mh_H) (l0 : Nat) (l3 : Int32) (l4 : Int32) (l5 : Int32), D_X1_fewestRooms_61 N F h l0 l3 l4 l5 = some z → mh_go P d mX1_fewestRooms 61 [some (.ref l0), none, none, some (.int l3), some (.int l4), some (.int l5)] [] h (some (.int z.1)) z.2 := by
  intro F
  induction F with
  | zero => intro h l0 l3 l4 l5 hq; rw [D_X1_fewestRooms_61] at hq; cases hq
  | succ F ih =>
    intro h l0 l3 l4 l5 hq
    rw [D_X1_fewestRooms_61] at hq
    refine st_iload (pc := 61) dX1_fewestRooms_61 rfl ?_
    refine st_iload (pc := 63) dX1_fewestRooms_63 rfl ?_
    refine bd_icmp_ge (pc := 65) (tgt := 87) hq dX1_fewestRooms_65 (by decide) (fun _ hq => ?_) (fun _ hq => ?_)
    ·
      refine st_iload (pc := 87) dX1_fewestRooms_87 rfl ?_
      exact bd_iret (pc := 89) hq dX1_fewestRooms_89 rfl
    ·
      refine st_aload_n (pc := 68) dX1_fewestRooms_68 rfl ?_
      refine st_iload_n (pc := 69) dX1_fewestRooms_69 rfl ?_
      refine st_iload (pc := 70) dX1_fewestRooms_70 rfl ?_
      obtain ⟨⟨hbq1, hkq1⟩, hq⟩ := mh_oi hq
      obtain ⟨q1, e1, hq⟩ := mh_ob hq
      refine st_invV (pc := 72) (ci := 1) (vs := [.int l3, .int l5]) (rest := []) (st2 := [.int q1.1]) dX1_fewestRooms_72 okX1_canCover (by decide) hkq1 hbq1 wd_968 wd_970 wp_32 pdX1_canCover rfl rfl rfl rfl (Nat.le_trans (by decide) hd) (Nat.le_of_ble_eq_true rfl) (T_X1_canCover 12 _ (Nat.le_refl _) _ _ _ _ _ e1) rfl ?_
      refine bd_if_eq (pc := 75) (tgt := 81) hq dX1_fewestRooms_75 (by decide) (fun _ hq => ?_) (fun _ hq => ?_)
      ·
        refine st_iinc (pc := 81) (lv' := [some (.ref l0), none, none, some (.int l3), some (.int l4), some (.int (l5 + Int32.ofInt (1)))]) dX1_fewestRooms_81 rfl rfl (by decide) rfl ?_
        refine st_goto (pc := 84) (tgt := 61) dX1_fewestRooms_84 (by decide) ?_
        exact ih _ _ _ _ _ hq
      ·
        refine st_iload (pc := 78) dX1_fewestRooms_78 rfl ?_
        exact bd_iret (pc := 80) hq dX1_fewestRooms_80 rfl
def D_X1_fewestRooms_10 (N : Nat) : Nat → mh_H → Nat → Int32 → Int32 → Int32 → Int32 → Option (Int32 × mh_H)
  | 0, _, _, _, _, _, _ => none
  | F + 1, h, l0, l1, l2, l3, l4 =>
    (gR h 1 l0 7).bind fun v1 =>
    (aL h v1).bind fun v2 =>
    if v2 ≤ l4 then ((D_J6_bitCount_0f7a4 N h l1).bind fun q3 =>
    (D_J6_bitCount_0f7a4 N q3.2 l2).bind fun q4 =>
    D_X1_fewestRooms_61 N N q4.2 l0 l3 (mh_min q3.1 q4.1) (0 : Int32))
    else ((gR h 1 l0 7).bind fun v3 =>
    (D_J6_bitCount_0f7a4 N h l1).bind fun q4 =>
    kO q4.2 1 l0 <|
    (D_X1_coverOf N q4.2 l0 l4 q4.1).bind fun q5 =>
    (uI q5.2 v3 l4 (q5.1 &&& l3)).bind fun h6 =>
    (D_X1_fewestRooms_10 N F) h6 l0 l1 l2 l3 (l4 + Int32.ofInt (1)))
set_option maxHeartbeats 4000000 in
set_option maxRecDepth 100000 in
theorem T_X1_fewestRooms_10 {P : mh_E → Prop} {N d : Nat} (hd : 14 ≤ d) {z : (Int32 × mh_H)} : ∀ (F : Nat) (h : mh_H) (l0 : Nat) (l1 : Int32) (l2 : Int32) (l3 : Int32) (l4 : Int32), D_X1_fewestRooms_10 N F h l0 l1 l2 l3 l4 = some z → mh_go P d mX1_fewestRooms 10 [some (.ref l0), some (.int l1), some (.int l2), some (.int l3), some (.int l4), none] [] h (some (.int z.1)) z.2 := by
  intro F
  induction F with
  | zero => intro h l0 l1 l2 l3 l4 hq; rw [D_X1_fewestRooms_10] at hq; cases hq
  | succ F ih =>
    intro h l0 l1 l2 l3 l4 hq
    rw [D_X1_fewestRooms_10] at hq
    refine st_iload (pc := 10) dX1_fewestRooms_10 rfl ?_
    refine st_aload_n (pc := 12) dX1_fewestRooms_12 rfl ?_
    refine bd_getr (pc := 13) hq dX1_fewestRooms_13 fl_1_34_1 rfl (fun v1 hq => ?_)
    refine bd_alen (pc := 16) hq dX1_fewestRooms_16 (fun v2 hq => ?_)
    refine bd_icmp_ge (pc := 17) (tgt := 45) hq dX1_fewestRooms_17 (by decide) (fun _ hq => ?_) (fun _ hq => ?_)
    ·
      refine st_iload_n (pc := 45) dX1_fewestRooms_45 rfl ?_
      obtain ⟨q3, e3, hq⟩ := mh_ob hq
      refine st_invS (pc := 46) (Y := mJ6_bitCount_0f7a4) (vs := [.int l1]) (rest := []) (st2 := [.int q3.1]) dX1_fewestRooms_46 okJ6_bitCount_0f7a4 wd_962 wd_948 pdJ6_bitCount_0f7a4 rfl rfl rfl rfl (Nat.le_trans (by decide) hd) (Nat.le_of_ble_eq_true rfl) (T_J6_bitCount_0f7a4 (Nat.le_refl _) e3) rfl ?_
      refine st_iload_n (pc := 49) dX1_fewestRooms_49 rfl ?_
      obtain ⟨q4, e4, hq⟩ := mh_ob hq
      refine st_invS (pc := 50) (Y := mJ6_bitCount_0f7a4) (vs := [.int l2]) (rest := [.int q3.1]) (st2 := [.int q4.1, .int q3.1]) dX1_fewestRooms_50 okJ6_bitCount_0f7a4 wd_962 wd_948 pdJ6_bitCount_0f7a4 rfl rfl rfl rfl (Nat.le_trans (by decide) hd) (Nat.le_of_ble_eq_true rfl) (T_J6_bitCount_0f7a4 (Nat.le_refl _) e4) rfl ?_
      refine st_mmin (pc := 53) dX1_fewestRooms_53 wd_967 (Nat.le_trans (by decide) hd) (Nat.le_of_ble_eq_true rfl) ?_
      refine st_istore (pc := 56) (lv' := [some (.ref l0), some (.int l1), some (.int l2), some (.int l3), some (.int (mh_min q3.1 q4.1)), none]) dX1_fewestRooms_56 rfl (by decide) rfl ?_
      refine st_iconst (pc := 58) (v := (0 : Int32)) dX1_fewestRooms_58 rfl ?_
      refine st_istore (pc := 59) (lv' := [some (.ref l0), some (.int l1), some (.int l2), some (.int l3), some (.int (mh_min q3.1 q4.1)), some (.int (0 : Int32))]) dX1_fewestRooms_59 rfl (by decide) rfl ?_
      refine st_lesS (lv' := [some (.ref l0), none, none, some (.int l3), some (.int (mh_min q3.1 q4.1)), some (.int (0 : Int32))]) ⟨Or.inr rfl, Or.inl rfl, Or.inl rfl, Or.inr rfl, Or.inr rfl, Or.inr rfl, trivial⟩ ?_
      exact T_X1_fewestRooms_61 hd N _ _ _ _ _ hq
    ·
      refine st_aload_n (pc := 20) dX1_fewestRooms_20 rfl ?_
      refine bd_getr (pc := 21) hq dX1_fewestRooms_21 fl_1_34_1 rfl (fun v3 hq => ?_)
      refine st_iload (pc := 24) dX1_fewestRooms_24 rfl ?_
      refine st_aload_n (pc := 26) dX1_fewestRooms_26 rfl ?_
      refine st_iload (pc := 27) dX1_fewestRooms_27 rfl ?_
      refine st_iload_n (pc := 29) dX1_fewestRooms_29 rfl ?_
      obtain ⟨q4, e4, hq⟩ := mh_ob hq
      refine st_invS (pc := 30) (Y := mJ6_bitCount_0f7a4) (vs := [.int l1]) (rest := [.int l4, .ref l0, .int l4, .ref v3]) (st2 := [.int q4.1, .int l4, .ref l0, .int l4, .ref v3]) dX1_fewestRooms_30 okJ6_bitCount_0f7a4 wd_962 wd_948 pdJ6_bitCount_0f7a4 rfl rfl rfl rfl (Nat.le_trans (by decide) hd) (Nat.le_of_ble_eq_true rfl) (T_J6_bitCount_0f7a4 (Nat.le_refl _) e4) rfl ?_
      obtain ⟨⟨hbq5, hkq5⟩, hq⟩ := mh_oi hq
      obtain ⟨q5, e5, hq⟩ := mh_ob hq
      refine st_invV (pc := 33) (ci := 1) (vs := [.int l4, .int q4.1]) (rest := [.int l4, .ref v3]) (st2 := [.int q5.1, .int l4, .ref v3]) dX1_fewestRooms_33 okX1_coverOf (by decide) hkq5 hbq5 wd_963 wd_965 wp_31 pdX1_coverOf rfl rfl rfl rfl (Nat.le_trans (by decide) hd) (Nat.le_of_ble_eq_true rfl) (T_X1_coverOf (Nat.le_refl _) e5) rfl ?_
      refine st_iload_n (pc := 36) dX1_fewestRooms_36 rfl ?_
      refine st_iand (pc := 37) dX1_fewestRooms_37 ?_
      refine bd_iast (pc := 38) hq dX1_fewestRooms_38 (fun h6 hq => ?_)
      refine st_iinc (pc := 39) (lv' := [some (.ref l0), some (.int l1), some (.int l2), some (.int l3), some (.int (l4 + Int32.ofInt (1))), none]) dX1_fewestRooms_39 rfl rfl (by decide) rfl ?_
      refine st_goto (pc := 42) (tgt := 10) dX1_fewestRooms_42 (by decide) ?_
      exact ih _ _ _ _ _ _ hq
def D_X1_fewestRooms (N : Nat) (h : mh_H) (l0 : Nat) (l1 : Int32) (l2 : Int32) : Option (Int32 × mh_H) :=
  kO h 1 l0 <|
  (D_X1_findSides N h l0 l1 l2).bind fun q1 =>
  D_X1_fewestRooms_10 N N q1.2 l0 l1 l2 q1.1 (0 : Int32)
set_option maxHeartbeats 4000000 in
set_option maxRecDepth 100000 in
theorem T_X1_fewestRooms {P : mh_E → Prop} {N d : Nat} (hd : 14 ≤ d) {z : (Int32 × mh_H)} {h : mh_H} {l0 : Nat} {l1 : Int32} {l2 : Int32} (hq : D_X1_fewestRooms N h l0 l1 l2 = some z) : mh_go P d mX1_fewestRooms 0 [some (.ref l0), some (.int l1), some (.int l2), none, none, none] [] h (some (.int z.1)) z.2 := by
  unfold D_X1_fewestRooms at hq
  refine st_aload_n (pc := 0) dX1_fewestRooms_0 rfl ?_
  refine st_iload_n (pc := 1) dX1_fewestRooms_1 rfl ?_
  refine st_iload_n (pc := 2) dX1_fewestRooms_2 rfl ?_
  obtain ⟨⟨hbq1, hkq1⟩, hq⟩ := mh_oi hq
  obtain ⟨q1, e1, hq⟩ := mh_ob hq
  refine st_invV (pc := 3) (ci := 1) (vs := [.int l1, .int l2]) (rest := []) (st2 := [.int q1.1]) dX1_fewestRooms_3 okX1_findSides (by decide) hkq1 hbq1 wd_957 wd_959 wp_30 pdX1_findSides rfl rfl rfl rfl (Nat.le_trans (by decide) hd) (Nat.le_of_ble_eq_true rfl) (T_X1_findSides (Nat.le_refl _) e1) rfl ?_
  refine st_istore_n (pc := 6) (lv' := [some (.ref l0), some (.int l1), some (.int l2), some (.int q1.1), none, none]) dX1_fewestRooms_6 rfl (by decide) rfl ?_
  refine st_iconst (pc := 7) (v := (0 : Int32)) dX1_fewestRooms_7 rfl ?_
  refine st_istore (pc := 8) (lv' := [some (.ref l0), some (.int l1), some (.int l2), some (.int q1.1), some (.int (0 : Int32)), none]) dX1_fewestRooms_8 rfl (by decide) rfl ?_
  exact T_X1_fewestRooms_10 hd N _ _ _ _ _ _ hq
-- HoleWater.rooms(II)I
theorem dX11_rooms_28 : decode cX11_rooms 28 = .ok (.aload_n 0, 1) := by decide +kernel
theorem dX11_rooms_29 : decode cX11_rooms 29 = .ok (.iconst 1, 1) := by decide +kernel
theorem dX11_rooms_30 : decode cX11_rooms 30 = .ok (.invokevirtual 66, 3) := by decide +kernel
theorem dX11_rooms_33 : decode cX11_rooms 33 = .ok (.ireturn, 1) := by decide +kernel
theorem dX11_rooms_64 : decode cX11_rooms 64 = .ok (.aload_n 0, 1) := by decide +kernel
theorem dX11_rooms_65 : decode cX11_rooms 65 = .ok (.iconst 5, 1) := by decide +kernel
theorem dX11_rooms_66 : decode cX11_rooms 66 = .ok (.invokevirtual 66, 3) := by decide +kernel
theorem dX11_rooms_69 : decode cX11_rooms 69 = .ok (.ireturn, 1) := by decide +kernel
theorem dX11_rooms_86 : decode cX11_rooms 86 = .ok (.aload_n 0, 1) := by decide +kernel
theorem dX11_rooms_87 : decode cX11_rooms 87 = .ok (.iconst 4, 1) := by decide +kernel
theorem dX11_rooms_88 : decode cX11_rooms 88 = .ok (.invokevirtual 66, 3) := by decide +kernel
theorem dX11_rooms_91 : decode cX11_rooms 91 = .ok (.ireturn, 1) := by decide +kernel
theorem dX11_rooms_0 : decode cX11_rooms 0 = .ok (.iconst 1, 1) := by decide +kernel
theorem dX11_rooms_1 : decode cX11_rooms 1 = .ok (.aload_n 0, 1) := by decide +kernel
theorem dX11_rooms_2 : decode cX11_rooms 2 = .ok (.getfield 12, 3) := by decide +kernel
theorem dX11_rooms_5 : decode cX11_rooms 5 = .ok (.getfield 70, 3) := by decide +kernel
theorem dX11_rooms_8 : decode cX11_rooms 8 = .ok (.ishl, 1) := by decide +kernel
theorem dX11_rooms_9 : decode cX11_rooms 9 = .ok (.iconst 1, 1) := by decide +kernel
theorem dX11_rooms_10 : decode cX11_rooms 10 = .ok (.isub, 1) := by decide +kernel
theorem dX11_rooms_11 : decode cX11_rooms 11 = .ok (.istore_n 3, 1) := by decide +kernel
theorem dX11_rooms_12 : decode cX11_rooms 12 = .ok (.iload_n 1, 1) := by decide +kernel
theorem dX11_rooms_13 : decode cX11_rooms 13 = .ok (.iload_n 3, 1) := by decide +kernel
theorem dX11_rooms_14 : decode cX11_rooms 14 = .ok (.iconst (-1), 1) := by decide +kernel
theorem dX11_rooms_15 : decode cX11_rooms 15 = .ok (.ixor, 1) := by decide +kernel
theorem dX11_rooms_16 : decode cX11_rooms 16 = .ok (.iand, 1) := by decide +kernel
theorem dX11_rooms_17 : decode cX11_rooms 17 = .ok (.ifCond .ne 11, 3) := by decide +kernel
theorem dX11_rooms_20 : decode cX11_rooms 20 = .ok (.iload_n 2, 1) := by decide +kernel
theorem dX11_rooms_21 : decode cX11_rooms 21 = .ok (.iload_n 3, 1) := by decide +kernel
theorem dX11_rooms_22 : decode cX11_rooms 22 = .ok (.iconst (-1), 1) := by decide +kernel
theorem dX11_rooms_23 : decode cX11_rooms 23 = .ok (.ixor, 1) := by decide +kernel
theorem dX11_rooms_24 : decode cX11_rooms 24 = .ok (.iand, 1) := by decide +kernel
theorem dX11_rooms_25 : decode cX11_rooms 25 = .ok (.ifCond .eq 9, 3) := by decide +kernel
theorem dX11_rooms_34 : decode cX11_rooms 34 = .ok (.iload_n 1, 1) := by decide +kernel
theorem dX11_rooms_35 : decode cX11_rooms 35 = .ok (.aload_n 0, 1) := by decide +kernel
theorem dX11_rooms_36 : decode cX11_rooms 36 = .ok (.getfield 12, 3) := by decide +kernel
theorem dX11_rooms_39 : decode cX11_rooms 39 = .ok (.iconst 0, 1) := by decide +kernel
theorem dX11_rooms_40 : decode cX11_rooms 40 = .ok (.invokevirtual 166, 3) := by decide +kernel
theorem dX11_rooms_43 : decode cX11_rooms 43 = .ok (.iconst (-1), 1) := by decide +kernel
theorem dX11_rooms_44 : decode cX11_rooms 44 = .ok (.ixor, 1) := by decide +kernel
theorem dX11_rooms_45 : decode cX11_rooms 45 = .ok (.iand, 1) := by decide +kernel
theorem dX11_rooms_46 : decode cX11_rooms 46 = .ok (.ifCond .ne 18, 3) := by decide +kernel
theorem dX11_rooms_49 : decode cX11_rooms 49 = .ok (.iload_n 2, 1) := by decide +kernel
theorem dX11_rooms_50 : decode cX11_rooms 50 = .ok (.aload_n 0, 1) := by decide +kernel
theorem dX11_rooms_51 : decode cX11_rooms 51 = .ok (.getfield 12, 3) := by decide +kernel
theorem dX11_rooms_54 : decode cX11_rooms 54 = .ok (.iconst 2, 1) := by decide +kernel
theorem dX11_rooms_55 : decode cX11_rooms 55 = .ok (.invokevirtual 166, 3) := by decide +kernel
theorem dX11_rooms_58 : decode cX11_rooms 58 = .ok (.iconst (-1), 1) := by decide +kernel
theorem dX11_rooms_59 : decode cX11_rooms 59 = .ok (.ixor, 1) := by decide +kernel
theorem dX11_rooms_60 : decode cX11_rooms 60 = .ok (.iand, 1) := by decide +kernel
theorem dX11_rooms_61 : decode cX11_rooms 61 = .ok (.ifCond .eq 9, 3) := by decide +kernel
theorem dX11_rooms_70 : decode cX11_rooms 70 = .ok (.iload_n 1, 1) := by decide +kernel
theorem dX11_rooms_71 : decode cX11_rooms 71 = .ok (.invokestatic 311, 3) := by decide +kernel
theorem dX11_rooms_74 : decode cX11_rooms 74 = .ok (.iconst 5, 1) := by decide +kernel
theorem dX11_rooms_75 : decode cX11_rooms 75 = .ok (.if_icmp .gt 11, 3) := by decide +kernel
theorem dX11_rooms_78 : decode cX11_rooms 78 = .ok (.iload_n 2, 1) := by decide +kernel
theorem dX11_rooms_79 : decode cX11_rooms 79 = .ok (.invokestatic 311, 3) := by decide +kernel
theorem dX11_rooms_82 : decode cX11_rooms 82 = .ok (.iconst 5, 1) := by decide +kernel
theorem dX11_rooms_83 : decode cX11_rooms 83 = .ok (.if_icmp .le 9, 3) := by decide +kernel
theorem dX11_rooms_92 : decode cX11_rooms 92 = .ok (.aload_n 0, 1) := by decide +kernel
theorem dX11_rooms_93 : decode cX11_rooms 93 = .ok (.getfield 12, 3) := by decide +kernel
theorem dX11_rooms_96 : decode cX11_rooms 96 = .ok (.getfield 196, 3) := by decide +kernel
theorem dX11_rooms_99 : decode cX11_rooms 99 = .ok (.iload_n 1, 1) := by decide +kernel
theorem dX11_rooms_100 : decode cX11_rooms 100 = .ok (.iload_n 2, 1) := by decide +kernel
theorem dX11_rooms_101 : decode cX11_rooms 101 = .ok (.invokevirtual 316, 3) := by decide +kernel
theorem dX11_rooms_104 : decode cX11_rooms 104 = .ok (.ireturn, 1) := by decide +kernel
def D_X11_rooms_28 (N : Nat) (h : mh_H) (l0 : Nat) : Option (Int32 × mh_H) :=
  kO h 11 l0 <|
  (D_X11_error N h l0 (1 : Int32)).bind fun q1 =>
  some (q1.1, q1.2)
set_option maxHeartbeats 4000000 in
set_option maxRecDepth 100000 in
theorem T_X11_rooms_28 {P : mh_E → Prop} {N d : Nat} (hd : 15 ≤ d) {z : (Int32 × mh_H)} {h : mh_H} {l0 : Nat} (hq : D_X11_rooms_28 N h l0 = some z) : mh_go P d mX11_rooms 28 [some (.ref l0), none, none, none] [] h (some (.int z.1)) z.2 := by
  unfold D_X11_rooms_28 at hq
  refine st_aload_n (pc := 28) dX11_rooms_28 rfl ?_
  refine st_iconst (pc := 29) (v := (1 : Int32)) dX11_rooms_29 rfl ?_
  obtain ⟨⟨hbq1, hkq1⟩, hq⟩ := mh_oi hq
  obtain ⟨q1, e1, hq⟩ := mh_ob hq
  refine st_invV (pc := 30) (ci := 11) (vs := [.int (1 : Int32)]) (rest := []) (st2 := [.int q1.1]) dX11_rooms_30 okX11_error (by decide) hkq1 hbq1 wd_326 wd_328 wp_0 pdX11_error rfl rfl rfl rfl (Nat.le_trans (by decide) hd) (Nat.le_of_ble_eq_true rfl) (T_X11_error (Nat.le_refl _) e1) rfl ?_
  exact bd_iret (pc := 33) hq dX11_rooms_33 rfl
def D_X11_rooms_64 (N : Nat) (h : mh_H) (l0 : Nat) : Option (Int32 × mh_H) :=
  kO h 11 l0 <|
  (D_X11_error N h l0 (5 : Int32)).bind fun q1 =>
  some (q1.1, q1.2)
set_option maxHeartbeats 4000000 in
set_option maxRecDepth 100000 in
theorem T_X11_rooms_64 {P : mh_E → Prop} {N d : Nat} (hd : 15 ≤ d) {z : (Int32 × mh_H)} {h : mh_H} {l0 : Nat} (hq : D_X11_rooms_64 N h l0 = some z) : mh_go P d mX11_rooms 64 [some (.ref l0), none, none, none] [] h (some (.int z.1)) z.2 := by
  unfold D_X11_rooms_64 at hq
  refine st_aload_n (pc := 64) dX11_rooms_64 rfl ?_
  refine st_iconst (pc := 65) (v := (5 : Int32)) dX11_rooms_65 rfl ?_
  obtain ⟨⟨hbq1, hkq1⟩, hq⟩ := mh_oi hq
  obtain ⟨q1, e1, hq⟩ := mh_ob hq
  refine st_invV (pc := 66) (ci := 11) (vs := [.int (5 : Int32)]) (rest := []) (st2 := [.int q1.1]) dX11_rooms_66 okX11_error (by decide) hkq1 hbq1 wd_326 wd_328 wp_0 pdX11_error rfl rfl rfl rfl (Nat.le_trans (by decide) hd) (Nat.le_of_ble_eq_true rfl) (T_X11_error (Nat.le_refl _) e1) rfl ?_
  exact bd_iret (pc := 69) hq dX11_rooms_69 rfl
def D_X11_rooms_86 (N : Nat) (h : mh_H) (l0 : Nat) : Option (Int32 × mh_H) :=
  kO h 11 l0 <|
  (D_X11_error N h l0 (4 : Int32)).bind fun q1 =>
  some (q1.1, q1.2)
set_option maxHeartbeats 4000000 in
set_option maxRecDepth 100000 in
theorem T_X11_rooms_86 {P : mh_E → Prop} {N d : Nat} (hd : 15 ≤ d) {z : (Int32 × mh_H)} {h : mh_H} {l0 : Nat} (hq : D_X11_rooms_86 N h l0 = some z) : mh_go P d mX11_rooms 86 [some (.ref l0), none, none, none] [] h (some (.int z.1)) z.2 := by
  unfold D_X11_rooms_86 at hq
  refine st_aload_n (pc := 86) dX11_rooms_86 rfl ?_
  refine st_iconst (pc := 87) (v := (4 : Int32)) dX11_rooms_87 rfl ?_
  obtain ⟨⟨hbq1, hkq1⟩, hq⟩ := mh_oi hq
  obtain ⟨q1, e1, hq⟩ := mh_ob hq
  refine st_invV (pc := 88) (ci := 11) (vs := [.int (4 : Int32)]) (rest := []) (st2 := [.int q1.1]) dX11_rooms_88 okX11_error (by decide) hkq1 hbq1 wd_326 wd_328 wp_0 pdX11_error rfl rfl rfl rfl (Nat.le_trans (by decide) hd) (Nat.le_of_ble_eq_true rfl) (T_X11_error (Nat.le_refl _) e1) rfl ?_
  exact bd_iret (pc := 91) hq dX11_rooms_91 rfl
def D_X11_rooms (N : Nat) (h : mh_H) (l0 : Nat) (l1 : Int32) (l2 : Int32) : Option (Int32 × mh_H) :=
  (gR h 11 l0 0).bind fun v1 =>
  (gI h 10 v1 0).bind fun v2 =>
  mh_let (((1 : Int32) <<< (v2 &&& 31)) - (1 : Int32)) fun v3 =>
  if (l1 &&& (v3 ^^^ (-1 : Int32))) = 0 then (if (l2 &&& (v3 ^^^ (-1 : Int32))) = 0 then ((gR h 11 l0 0).bind fun v4 =>
  kO h 10 v4 <|
  (D_X10_bitsOf N h v4 (0 : Int32)).bind fun q5 =>
  if (l1 &&& (q5.1 ^^^ (-1 : Int32))) = 0 then ((gR q5.2 11 l0 0).bind fun v6 =>
  kO q5.2 10 v6 <|
  (D_X10_bitsOf N q5.2 v6 (2 : Int32)).bind fun q7 =>
  if (l2 &&& (q7.1 ^^^ (-1 : Int32))) = 0 then ((D_J6_bitCount_0f7a4 N q7.2 l1).bind fun q8 =>
  if (5 : Int32) < q8.1 then (D_X11_rooms_86 N q8.2 l0)
  else ((D_J6_bitCount_0f7a4 N q8.2 l2).bind fun q9 =>
  if q9.1 ≤ (5 : Int32) then ((gR q9.2 11 l0 0).bind fun v10 =>
  (gR q9.2 10 v10 8).bind fun v11 =>
  kO q9.2 1 v11 <|
  (D_X1_fewestRooms N q9.2 v11 l1 l2).bind fun q12 =>
  some (q12.1, q12.2))
  else (D_X11_rooms_86 N q9.2 l0)))
  else (D_X11_rooms_64 N q7.2 l0))
  else (D_X11_rooms_64 N q5.2 l0))
  else (D_X11_rooms_28 N h l0))
  else (D_X11_rooms_28 N h l0)
set_option maxHeartbeats 4000000 in
set_option maxRecDepth 100000 in
theorem T_X11_rooms {P : mh_E → Prop} {N d : Nat} (hd : 15 ≤ d) {z : (Int32 × mh_H)} {h : mh_H} {l0 : Nat} {l1 : Int32} {l2 : Int32} (hq : D_X11_rooms N h l0 l1 l2 = some z) : mh_go P d mX11_rooms 0 [some (.ref l0), some (.int l1), some (.int l2), none] [] h (some (.int z.1)) z.2 := by
  unfold D_X11_rooms at hq
  refine st_iconst (pc := 0) (v := (1 : Int32)) dX11_rooms_0 rfl ?_
  refine st_aload_n (pc := 1) dX11_rooms_1 rfl ?_
  refine bd_getr (pc := 2) hq dX11_rooms_2 fl_11_12_11 rfl (fun v1 hq => ?_)
  refine bd_geti (pc := 5) hq dX11_rooms_5 fl_11_70_10 rfl (fun v2 hq => ?_)
  refine st_ishl (pc := 8) dX11_rooms_8 ?_
  refine st_iconst (pc := 9) (v := (1 : Int32)) dX11_rooms_9 rfl ?_
  refine st_isub (pc := 10) dX11_rooms_10 ?_
  refine bd_leti hq (fun v3 hq => ?_)
  refine st_istore_n (pc := 11) (lv' := [some (.ref l0), some (.int l1), some (.int l2), some (.int v3)]) dX11_rooms_11 rfl (by decide) rfl ?_
  refine st_iload_n (pc := 12) dX11_rooms_12 rfl ?_
  refine st_iload_n (pc := 13) dX11_rooms_13 rfl ?_
  refine st_iconst (pc := 14) (v := (-1 : Int32)) dX11_rooms_14 rfl ?_
  refine st_ixor (pc := 15) dX11_rooms_15 ?_
  refine st_iand (pc := 16) dX11_rooms_16 ?_
  refine bd_if_ne (pc := 17) (tgt := 28) hq dX11_rooms_17 (by decide) (fun _ hq => ?_) (fun _ hq => ?_)
  ·
    refine st_iload_n (pc := 20) dX11_rooms_20 rfl ?_
    refine st_iload_n (pc := 21) dX11_rooms_21 rfl ?_
    refine st_iconst (pc := 22) (v := (-1 : Int32)) dX11_rooms_22 rfl ?_
    refine st_ixor (pc := 23) dX11_rooms_23 ?_
    refine st_iand (pc := 24) dX11_rooms_24 ?_
    refine bd_if_eq (pc := 25) (tgt := 34) hq dX11_rooms_25 (by decide) (fun _ hq => ?_) (fun _ hq => ?_)
    ·
      refine st_iload_n (pc := 34) dX11_rooms_34 rfl ?_
      refine st_aload_n (pc := 35) dX11_rooms_35 rfl ?_
      refine bd_getr (pc := 36) hq dX11_rooms_36 fl_11_12_11 rfl (fun v4 hq => ?_)
      refine st_iconst (pc := 39) (v := (0 : Int32)) dX11_rooms_39 rfl ?_
      obtain ⟨⟨hbq5, hkq5⟩, hq⟩ := mh_oi hq
      obtain ⟨q5, e5, hq⟩ := mh_ob hq
      refine st_invV (pc := 40) (ci := 10) (vs := [.int (0 : Int32)]) (rest := [.int l1]) (st2 := [.int q5.1, .int l1]) dX11_rooms_40 okX10_bitsOf (by decide) hkq5 hbq5 wd_483 wd_484 wd_485 pdX10_bitsOf rfl rfl rfl rfl (Nat.le_trans (by decide) hd) (Nat.le_of_ble_eq_true rfl) (T_X10_bitsOf (Nat.le_refl _) e5) rfl ?_
      refine st_iconst (pc := 43) (v := (-1 : Int32)) dX11_rooms_43 rfl ?_
      refine st_ixor (pc := 44) dX11_rooms_44 ?_
      refine st_iand (pc := 45) dX11_rooms_45 ?_
      refine bd_if_ne (pc := 46) (tgt := 64) hq dX11_rooms_46 (by decide) (fun _ hq => ?_) (fun _ hq => ?_)
      ·
        refine st_iload_n (pc := 49) dX11_rooms_49 rfl ?_
        refine st_aload_n (pc := 50) dX11_rooms_50 rfl ?_
        refine bd_getr (pc := 51) hq dX11_rooms_51 fl_11_12_11 rfl (fun v6 hq => ?_)
        refine st_iconst (pc := 54) (v := (2 : Int32)) dX11_rooms_54 rfl ?_
        obtain ⟨⟨hbq7, hkq7⟩, hq⟩ := mh_oi hq
        obtain ⟨q7, e7, hq⟩ := mh_ob hq
        refine st_invV (pc := 55) (ci := 10) (vs := [.int (2 : Int32)]) (rest := [.int l2]) (st2 := [.int q7.1, .int l2]) dX11_rooms_55 okX10_bitsOf (by decide) hkq7 hbq7 wd_483 wd_484 wd_485 pdX10_bitsOf rfl rfl rfl rfl (Nat.le_trans (by decide) hd) (Nat.le_of_ble_eq_true rfl) (T_X10_bitsOf (Nat.le_refl _) e7) rfl ?_
        refine st_iconst (pc := 58) (v := (-1 : Int32)) dX11_rooms_58 rfl ?_
        refine st_ixor (pc := 59) dX11_rooms_59 ?_
        refine st_iand (pc := 60) dX11_rooms_60 ?_
        refine bd_if_eq (pc := 61) (tgt := 70) hq dX11_rooms_61 (by decide) (fun _ hq => ?_) (fun _ hq => ?_)
        ·
          refine st_iload_n (pc := 70) dX11_rooms_70 rfl ?_
          obtain ⟨q8, e8, hq⟩ := mh_ob hq
          refine st_invS (pc := 71) (Y := mJ6_bitCount_0f7a4) (vs := [.int l1]) (rest := []) (st2 := [.int q8.1]) dX11_rooms_71 okJ6_bitCount_0f7a4 wd_947 wd_948 pdJ6_bitCount_0f7a4 rfl rfl rfl rfl (Nat.le_trans (by decide) hd) (Nat.le_of_ble_eq_true rfl) (T_J6_bitCount_0f7a4 (Nat.le_refl _) e8) rfl ?_
          refine st_iconst (pc := 74) (v := (5 : Int32)) dX11_rooms_74 rfl ?_
          refine bd_icmp_gt (pc := 75) (tgt := 86) hq dX11_rooms_75 (by decide) (fun _ hq => ?_) (fun _ hq => ?_)
          ·
            refine st_lesS (lv' := [some (.ref l0), none, none, none]) ⟨Or.inr rfl, Or.inl rfl, Or.inl rfl, Or.inl rfl, trivial⟩ ?_
            exact T_X11_rooms_86 hd hq
          ·
            refine st_iload_n (pc := 78) dX11_rooms_78 rfl ?_
            obtain ⟨q9, e9, hq⟩ := mh_ob hq
            refine st_invS (pc := 79) (Y := mJ6_bitCount_0f7a4) (vs := [.int l2]) (rest := []) (st2 := [.int q9.1]) dX11_rooms_79 okJ6_bitCount_0f7a4 wd_947 wd_948 pdJ6_bitCount_0f7a4 rfl rfl rfl rfl (Nat.le_trans (by decide) hd) (Nat.le_of_ble_eq_true rfl) (T_J6_bitCount_0f7a4 (Nat.le_refl _) e9) rfl ?_
            refine st_iconst (pc := 82) (v := (5 : Int32)) dX11_rooms_82 rfl ?_
            refine bd_icmp_le (pc := 83) (tgt := 92) hq dX11_rooms_83 (by decide) (fun _ hq => ?_) (fun _ hq => ?_)
            ·
              refine st_aload_n (pc := 92) dX11_rooms_92 rfl ?_
              refine bd_getr (pc := 93) hq dX11_rooms_93 fl_11_12_11 rfl (fun v10 hq => ?_)
              refine bd_getr (pc := 96) hq dX11_rooms_96 fl_11_196_10 rfl (fun v11 hq => ?_)
              refine st_iload_n (pc := 99) dX11_rooms_99 rfl ?_
              refine st_iload_n (pc := 100) dX11_rooms_100 rfl ?_
              obtain ⟨⟨hbq12, hkq12⟩, hq⟩ := mh_oi hq
              obtain ⟨q12, e12, hq⟩ := mh_ob hq
              refine st_invV (pc := 101) (ci := 1) (vs := [.int l1, .int l2]) (rest := []) (st2 := [.int q12.1]) dX11_rooms_101 okX1_fewestRooms (by decide) hkq12 hbq12 wd_953 wd_954 wd_955 pdX1_fewestRooms rfl rfl rfl rfl (Nat.le_trans (by decide) hd) (Nat.le_of_ble_eq_true rfl) (T_X1_fewestRooms (Nat.le_refl _) e12) rfl ?_
              exact bd_iret (pc := 104) hq dX11_rooms_104 rfl
            ·
              refine st_lesS (lv' := [some (.ref l0), none, none, none]) ⟨Or.inr rfl, Or.inl rfl, Or.inl rfl, Or.inl rfl, trivial⟩ ?_
              exact T_X11_rooms_86 hd hq
        ·
          refine st_lesS (lv' := [some (.ref l0), none, none, none]) ⟨Or.inr rfl, Or.inl rfl, Or.inl rfl, Or.inl rfl, trivial⟩ ?_
          exact T_X11_rooms_64 hd hq
      ·
        refine st_lesS (lv' := [some (.ref l0), none, none, none]) ⟨Or.inr rfl, Or.inl rfl, Or.inl rfl, Or.inl rfl, trivial⟩ ?_
        exact T_X11_rooms_64 hd hq
    ·
      refine st_lesS (lv' := [some (.ref l0), none, none, none]) ⟨Or.inr rfl, Or.inl rfl, Or.inl rfl, Or.inl rfl, trivial⟩ ?_
      exact T_X11_rooms_28 hd hq
  ·
    refine st_lesS (lv' := [some (.ref l0), none, none, none]) ⟨Or.inr rfl, Or.inl rfl, Or.inl rfl, Or.inl rfl, trivial⟩ ?_
    exact T_X11_rooms_28 hd hq
