-- HoleWater$World.allBelow(I)I
theorem dX10_allBelow_36 : decode cX10_allBelow 36 = .ok (.iload_n 3, 1) := by decide +kernel
theorem dX10_allBelow_37 : decode cX10_allBelow 37 = .ok (.aload_n 0, 1) := by decide +kernel
theorem dX10_allBelow_38 : decode cX10_allBelow 38 = .ok (.getfield 15, 3) := by decide +kernel
theorem dX10_allBelow_41 : decode cX10_allBelow 41 = .ok (.if_icmp .ge 21, 3) := by decide +kernel
theorem dX10_allBelow_62 : decode cX10_allBelow 62 = .ok (.iload_n 2, 1) := by decide +kernel
theorem dX10_allBelow_63 : decode cX10_allBelow 63 = .ok (.ireturn, 1) := by decide +kernel
theorem dX10_allBelow_44 : decode cX10_allBelow 44 = .ok (.iload_n 2, 1) := by decide +kernel
theorem dX10_allBelow_45 : decode cX10_allBelow 45 = .ok (.aload_n 0, 1) := by decide +kernel
theorem dX10_allBelow_46 : decode cX10_allBelow 46 = .ok (.getfield 40, 3) := by decide +kernel
theorem dX10_allBelow_49 : decode cX10_allBelow 49 = .ok (.iload_n 3, 1) := by decide +kernel
theorem dX10_allBelow_50 : decode cX10_allBelow 50 = .ok (.iload_n 1, 1) := by decide +kernel
theorem dX10_allBelow_51 : decode cX10_allBelow 51 = .ok (.invokevirtual 109, 3) := by decide +kernel
theorem dX10_allBelow_54 : decode cX10_allBelow 54 = .ok (.iadd, 1) := by decide +kernel
theorem dX10_allBelow_55 : decode cX10_allBelow 55 = .ok (.istore_n 2, 1) := by decide +kernel
theorem dX10_allBelow_56 : decode cX10_allBelow 56 = .ok (.iinc 3 1, 3) := by decide +kernel
theorem dX10_allBelow_59 : decode cX10_allBelow 59 = .ok (.goto (-23), 3) := by decide +kernel
theorem dX10_allBelow_4 : decode cX10_allBelow 4 = .ok (.iload_n 3, 1) := by decide +kernel
theorem dX10_allBelow_5 : decode cX10_allBelow 5 = .ok (.aload_n 0, 1) := by decide +kernel
theorem dX10_allBelow_6 : decode cX10_allBelow 6 = .ok (.getfield 9, 3) := by decide +kernel
theorem dX10_allBelow_9 : decode cX10_allBelow 9 = .ok (.if_icmp .ge 25, 3) := by decide +kernel
theorem dX10_allBelow_34 : decode cX10_allBelow 34 = .ok (.iconst 0, 1) := by decide +kernel
theorem dX10_allBelow_35 : decode cX10_allBelow 35 = .ok (.istore_n 3, 1) := by decide +kernel
theorem dX10_allBelow_12 : decode cX10_allBelow 12 = .ok (.iload_n 2, 1) := by decide +kernel
theorem dX10_allBelow_13 : decode cX10_allBelow 13 = .ok (.aload_n 0, 1) := by decide +kernel
theorem dX10_allBelow_14 : decode cX10_allBelow 14 = .ok (.getfield 40, 3) := by decide +kernel
theorem dX10_allBelow_17 : decode cX10_allBelow 17 = .ok (.getfield 96, 3) := by decide +kernel
theorem dX10_allBelow_20 : decode cX10_allBelow 20 = .ok (.iload_n 3, 1) := by decide +kernel
theorem dX10_allBelow_21 : decode cX10_allBelow 21 = .ok (.iconst 5, 1) := by decide +kernel
theorem dX10_allBelow_22 : decode cX10_allBelow 22 = .ok (.imul, 1) := by decide +kernel
theorem dX10_allBelow_23 : decode cX10_allBelow 23 = .ok (.iload_n 1, 1) := by decide +kernel
theorem dX10_allBelow_24 : decode cX10_allBelow 24 = .ok (.iadd, 1) := by decide +kernel
theorem dX10_allBelow_25 : decode cX10_allBelow 25 = .ok (.iaload, 1) := by decide +kernel
theorem dX10_allBelow_26 : decode cX10_allBelow 26 = .ok (.iadd, 1) := by decide +kernel
theorem dX10_allBelow_27 : decode cX10_allBelow 27 = .ok (.istore_n 2, 1) := by decide +kernel
theorem dX10_allBelow_28 : decode cX10_allBelow 28 = .ok (.iinc 3 1, 3) := by decide +kernel
theorem dX10_allBelow_31 : decode cX10_allBelow 31 = .ok (.goto (-27), 3) := by decide +kernel
theorem dX10_allBelow_0 : decode cX10_allBelow 0 = .ok (.iconst 0, 1) := by decide +kernel
theorem dX10_allBelow_1 : decode cX10_allBelow 1 = .ok (.istore_n 2, 1) := by decide +kernel
theorem dX10_allBelow_2 : decode cX10_allBelow 2 = .ok (.iconst 0, 1) := by decide +kernel
theorem dX10_allBelow_3 : decode cX10_allBelow 3 = .ok (.istore_n 3, 1) := by decide +kernel
def D_X10_allBelow_36 (N : Nat) : Nat → mh_H → Nat → Int32 → Int32 → Int32 → Option (Int32 × mh_H)
  | 0, _, _, _, _, _ => none
  | F + 1, h, l0, l1, l2, l3 =>
    (gI h 10 l0 1).bind fun v1 =>
    if v1 ≤ l3 then (some (l2, h))
    else ((gR h 10 l0 7).bind fun v2 =>
    kO h 8 v2 <|
    (D_X8_inWay N h v2 l3 l1).bind fun q3 =>
    (D_X10_allBelow_36 N F) q3.2 l0 l1 (l2 + q3.1) (l3 + Int32.ofInt (1)))
set_option maxHeartbeats 4000000 in
set_option maxRecDepth 100000 in
theorem T_X10_allBelow_36 {P : mh_E → Prop} {N d : Nat} (hd : 2 ≤ d) {z : (Int32 × mh_H)} : ∀ (F : Nat) (h : mh_H) (l0 : Nat) (l1 : Int32) (l2 : Int32) (l3 : Int32), D_X10_allBelow_36 N F h l0 l1 l2 l3 = some z → mh_go P d mX10_allBelow 36 [some (.ref l0), some (.int l1), some (.int l2), some (.int l3)] [] h (some (.int z.1)) z.2 := by
  intro F
  induction F with
  | zero => intro h l0 l1 l2 l3 hq; rw [D_X10_allBelow_36] at hq; cases hq
  | succ F ih =>
    intro h l0 l1 l2 l3 hq
    rw [D_X10_allBelow_36] at hq
    refine st_iload_n (pc := 36) dX10_allBelow_36 rfl ?_
    refine st_aload_n (pc := 37) dX10_allBelow_37 rfl ?_
    refine bd_geti (pc := 38) hq dX10_allBelow_38 fl_10_15_10 rfl (fun v1 hq => ?_)
    refine bd_icmp_ge (pc := 41) (tgt := 62) hq dX10_allBelow_41 (by decide) (fun _ hq => ?_) (fun _ hq => ?_)
    ·
      refine st_iload_n (pc := 62) dX10_allBelow_62 rfl ?_
      exact bd_iret (pc := 63) hq dX10_allBelow_63 rfl
    ·
      refine st_iload_n (pc := 44) dX10_allBelow_44 rfl ?_
      refine st_aload_n (pc := 45) dX10_allBelow_45 rfl ?_
      refine bd_getr (pc := 46) hq dX10_allBelow_46 fl_10_40_10 rfl (fun v2 hq => ?_)
      refine st_iload_n (pc := 49) dX10_allBelow_49 rfl ?_
      refine st_iload_n (pc := 50) dX10_allBelow_50 rfl ?_
      obtain ⟨⟨hbq3, hkq3⟩, hq⟩ := mh_oi hq
      obtain ⟨q3, e3, hq⟩ := mh_ob hq
      refine st_invV (pc := 51) (ci := 8) (vs := [.int l3, .int l1]) (rest := [.int l2]) (st2 := [.int q3.1, .int l2]) dX10_allBelow_51 okX8_inWay (by decide) hkq3 hbq3 wd_651 wd_476 wd_477 pdX8_inWay rfl rfl rfl rfl (Nat.le_trans (by decide) hd) (Nat.le_of_ble_eq_true rfl) (T_X8_inWay (Nat.le_refl _) e3) rfl ?_
      refine st_iadd (pc := 54) dX10_allBelow_54 ?_
      refine st_istore_n (pc := 55) (lv' := [some (.ref l0), some (.int l1), some (.int (l2 + q3.1)), some (.int l3)]) dX10_allBelow_55 rfl (by decide) rfl ?_
      refine st_iinc (pc := 56) (lv' := [some (.ref l0), some (.int l1), some (.int (l2 + q3.1)), some (.int (l3 + Int32.ofInt (1)))]) dX10_allBelow_56 rfl rfl (by decide) rfl ?_
      refine st_goto (pc := 59) (tgt := 36) dX10_allBelow_59 (by decide) ?_
      exact ih _ _ _ _ _ hq
def D_X10_allBelow_4 (N : Nat) : Nat → mh_H → Nat → Int32 → Int32 → Int32 → Option (Int32 × mh_H)
  | 0, _, _, _, _, _ => none
  | F + 1, h, l0, l1, l2, l3 =>
    (gI h 10 l0 0).bind fun v1 =>
    if v1 ≤ l3 then (D_X10_allBelow_36 N N h l0 l1 l2 (0 : Int32))
    else ((gR h 10 l0 7).bind fun v2 =>
    (gR h 8 v2 5).bind fun v3 =>
    (aI h v3 ((l3 * (5 : Int32)) + l1)).bind fun v4 =>
    (D_X10_allBelow_4 N F) h l0 l1 (l2 + v4) (l3 + Int32.ofInt (1)))
set_option maxHeartbeats 4000000 in
set_option maxRecDepth 100000 in
theorem T_X10_allBelow_4 {P : mh_E → Prop} {N d : Nat} (hd : 2 ≤ d) {z : (Int32 × mh_H)} : ∀ (F : Nat) (h : mh_H) (l0 : Nat) (l1 : Int32) (l2 : Int32) (l3 : Int32), D_X10_allBelow_4 N F h l0 l1 l2 l3 = some z → mh_go P d mX10_allBelow 4 [some (.ref l0), some (.int l1), some (.int l2), some (.int l3)] [] h (some (.int z.1)) z.2 := by
  intro F
  induction F with
  | zero => intro h l0 l1 l2 l3 hq; rw [D_X10_allBelow_4] at hq; cases hq
  | succ F ih =>
    intro h l0 l1 l2 l3 hq
    rw [D_X10_allBelow_4] at hq
    refine st_iload_n (pc := 4) dX10_allBelow_4 rfl ?_
    refine st_aload_n (pc := 5) dX10_allBelow_5 rfl ?_
    refine bd_geti (pc := 6) hq dX10_allBelow_6 fl_10_9_10 rfl (fun v1 hq => ?_)
    refine bd_icmp_ge (pc := 9) (tgt := 34) hq dX10_allBelow_9 (by decide) (fun _ hq => ?_) (fun _ hq => ?_)
    ·
      refine st_iconst (pc := 34) (v := (0 : Int32)) dX10_allBelow_34 rfl ?_
      refine st_istore_n (pc := 35) (lv' := [some (.ref l0), some (.int l1), some (.int l2), some (.int (0 : Int32))]) dX10_allBelow_35 rfl (by decide) rfl ?_
      exact T_X10_allBelow_36 hd N _ _ _ _ _ hq
    ·
      refine st_iload_n (pc := 12) dX10_allBelow_12 rfl ?_
      refine st_aload_n (pc := 13) dX10_allBelow_13 rfl ?_
      refine bd_getr (pc := 14) hq dX10_allBelow_14 fl_10_40_10 rfl (fun v2 hq => ?_)
      refine bd_getr (pc := 17) hq dX10_allBelow_17 fl_10_96_8 rfl (fun v3 hq => ?_)
      refine st_iload_n (pc := 20) dX10_allBelow_20 rfl ?_
      refine st_iconst (pc := 21) (v := (5 : Int32)) dX10_allBelow_21 rfl ?_
      refine st_imul (pc := 22) dX10_allBelow_22 ?_
      refine st_iload_n (pc := 23) dX10_allBelow_23 rfl ?_
      refine st_iadd (pc := 24) dX10_allBelow_24 ?_
      refine bd_iald (pc := 25) hq dX10_allBelow_25 (fun v4 hq => ?_)
      refine st_iadd (pc := 26) dX10_allBelow_26 ?_
      refine st_istore_n (pc := 27) (lv' := [some (.ref l0), some (.int l1), some (.int (l2 + v4)), some (.int l3)]) dX10_allBelow_27 rfl (by decide) rfl ?_
      refine st_iinc (pc := 28) (lv' := [some (.ref l0), some (.int l1), some (.int (l2 + v4)), some (.int (l3 + Int32.ofInt (1)))]) dX10_allBelow_28 rfl rfl (by decide) rfl ?_
      refine st_goto (pc := 31) (tgt := 4) dX10_allBelow_31 (by decide) ?_
      exact ih _ _ _ _ _ hq
def D_X10_allBelow (N : Nat) (h : mh_H) (l0 : Nat) (l1 : Int32) : Option (Int32 × mh_H) :=
  D_X10_allBelow_4 N N h l0 l1 (0 : Int32) (0 : Int32)
set_option maxHeartbeats 4000000 in
set_option maxRecDepth 100000 in
theorem T_X10_allBelow {P : mh_E → Prop} {N d : Nat} (hd : 2 ≤ d) {z : (Int32 × mh_H)} {h : mh_H} {l0 : Nat} {l1 : Int32} (hq : D_X10_allBelow N h l0 l1 = some z) : mh_go P d mX10_allBelow 0 [some (.ref l0), some (.int l1), none, none] [] h (some (.int z.1)) z.2 := by
  unfold D_X10_allBelow at hq
  refine st_iconst (pc := 0) (v := (0 : Int32)) dX10_allBelow_0 rfl ?_
  refine st_istore_n (pc := 1) (lv' := [some (.ref l0), some (.int l1), some (.int (0 : Int32)), none]) dX10_allBelow_1 rfl (by decide) rfl ?_
  refine st_iconst (pc := 2) (v := (0 : Int32)) dX10_allBelow_2 rfl ?_
  refine st_istore_n (pc := 3) (lv' := [some (.ref l0), some (.int l1), some (.int (0 : Int32)), some (.int (0 : Int32))]) dX10_allBelow_3 rfl (by decide) rfl ?_
  exact T_X10_allBelow_4 hd N _ _ _ _ _ hq
-- HoleWater.stuff(II)I
theorem dX11_stuff_17 : decode cX11_stuff 17 = .ok (.aload_n 0, 1) := by decide +kernel
theorem dX11_stuff_18 : decode cX11_stuff 18 = .ok (.iconst 1, 1) := by decide +kernel
theorem dX11_stuff_19 : decode cX11_stuff 19 = .ok (.invokevirtual 66, 3) := by decide +kernel
theorem dX11_stuff_22 : decode cX11_stuff 22 = .ok (.ireturn, 1) := by decide +kernel
theorem dX11_stuff_0 : decode cX11_stuff 0 = .ok (.iload_n 1, 1) := by decide +kernel
theorem dX11_stuff_1 : decode cX11_stuff 1 = .ok (.invokestatic 183, 3) := by decide +kernel
theorem dX11_stuff_4 : decode cX11_stuff 4 = .ok (.ifCond .eq 13, 3) := by decide +kernel
theorem dX11_stuff_7 : decode cX11_stuff 7 = .ok (.iload_n 2, 1) := by decide +kernel
theorem dX11_stuff_8 : decode cX11_stuff 8 = .ok (.iconst 0, 1) := by decide +kernel
theorem dX11_stuff_9 : decode cX11_stuff 9 = .ok (.bipush 6, 2) := by decide +kernel
theorem dX11_stuff_11 : decode cX11_stuff 11 = .ok (.invokestatic 62, 3) := by decide +kernel
theorem dX11_stuff_14 : decode cX11_stuff 14 = .ok (.ifCond .ne 9, 3) := by decide +kernel
theorem dX11_stuff_23 : decode cX11_stuff 23 = .ok (.iload_n 2, 1) := by decide +kernel
theorem dX11_stuff_24 : decode cX11_stuff 24 = .ok (.iconst 1, 1) := by decide +kernel
theorem dX11_stuff_25 : decode cX11_stuff 25 = .ok (.if_icmp .ne 16, 3) := by decide +kernel
theorem dX11_stuff_28 : decode cX11_stuff 28 = .ok (.aload_n 0, 1) := by decide +kernel
theorem dX11_stuff_29 : decode cX11_stuff 29 = .ok (.getfield 12, 3) := by decide +kernel
theorem dX11_stuff_32 : decode cX11_stuff 32 = .ok (.iconst 1, 1) := by decide +kernel
theorem dX11_stuff_33 : decode cX11_stuff 33 = .ok (.iload_n 1, 1) := by decide +kernel
theorem dX11_stuff_34 : decode cX11_stuff 34 = .ok (.iadd, 1) := by decide +kernel
theorem dX11_stuff_35 : decode cX11_stuff 35 = .ok (.invokevirtual 214, 3) := by decide +kernel
theorem dX11_stuff_38 : decode cX11_stuff 38 = .ok (.goto 20, 3) := by decide +kernel
theorem dX11_stuff_58 : decode cX11_stuff 58 = .ok (.ireturn, 1) := by decide +kernel
theorem dX11_stuff_41 : decode cX11_stuff 41 = .ok (.aload_n 0, 1) := by decide +kernel
theorem dX11_stuff_42 : decode cX11_stuff 42 = .ok (.getfield 12, 3) := by decide +kernel
theorem dX11_stuff_45 : decode cX11_stuff 45 = .ok (.getfield 90, 3) := by decide +kernel
theorem dX11_stuff_48 : decode cX11_stuff 48 = .ok (.getfield 217, 3) := by decide +kernel
theorem dX11_stuff_51 : decode cX11_stuff 51 = .ok (.iload_n 1, 1) := by decide +kernel
theorem dX11_stuff_52 : decode cX11_stuff 52 = .ok (.bipush 7, 2) := by decide +kernel
theorem dX11_stuff_54 : decode cX11_stuff 54 = .ok (.imul, 1) := by decide +kernel
theorem dX11_stuff_55 : decode cX11_stuff 55 = .ok (.iload_n 2, 1) := by decide +kernel
theorem dX11_stuff_56 : decode cX11_stuff 56 = .ok (.iadd, 1) := by decide +kernel
theorem dX11_stuff_57 : decode cX11_stuff 57 = .ok (.iaload, 1) := by decide +kernel
def D_X11_stuff_17 (N : Nat) (h : mh_H) (l0 : Nat) : Option (Int32 × mh_H) :=
  kO h 11 l0 <|
  (D_X11_error N h l0 (1 : Int32)).bind fun q1 =>
  some (q1.1, q1.2)
set_option maxHeartbeats 4000000 in
set_option maxRecDepth 100000 in
theorem T_X11_stuff_17 {P : mh_E → Prop} {N d : Nat} (hd : 3 ≤ d) {z : (Int32 × mh_H)} {h : mh_H} {l0 : Nat} (hq : D_X11_stuff_17 N h l0 = some z) : mh_go P d mX11_stuff 17 [some (.ref l0), none, none] [] h (some (.int z.1)) z.2 := by
  unfold D_X11_stuff_17 at hq
  refine st_aload_n (pc := 17) dX11_stuff_17 rfl ?_
  refine st_iconst (pc := 18) (v := (1 : Int32)) dX11_stuff_18 rfl ?_
  obtain ⟨⟨hbq1, hkq1⟩, hq⟩ := mh_oi hq
  obtain ⟨q1, e1, hq⟩ := mh_ob hq
  refine st_invV (pc := 19) (ci := 11) (vs := [.int (1 : Int32)]) (rest := []) (st2 := [.int q1.1]) dX11_stuff_19 okX11_error (by decide) hkq1 hbq1 wd_326 wd_328 wp_0 pdX11_error rfl rfl rfl rfl (Nat.le_trans (by decide) hd) (Nat.le_of_ble_eq_true rfl) (T_X11_error (Nat.le_refl _) e1) rfl ?_
  exact bd_iret (pc := 22) hq dX11_stuff_22 rfl
def D_X11_stuff (N : Nat) (h : mh_H) (l0 : Nat) (l1 : Int32) (l2 : Int32) : Option (Int32 × mh_H) :=
  (D_X11_isColour N h l1).bind fun q1 =>
  if q1.1 = 0 then (D_X11_stuff_17 N q1.2 l0)
  else ((D_X11_within N q1.2 l2 (0 : Int32) (6 : Int32)).bind fun q2 =>
  if q2.1 = 0 then (D_X11_stuff_17 N q2.2 l0)
  else (if l2 = (1 : Int32) then ((gR q2.2 11 l0 0).bind fun v3 =>
  kO q2.2 10 v3 <|
  (D_X10_allBelow N q2.2 v3 ((1 : Int32) + l1)).bind fun q4 =>
  some (q4.1, q4.2))
  else ((gR q2.2 11 l0 0).bind fun v3 =>
  (gR q2.2 10 v3 7).bind fun v4 =>
  (gR q2.2 8 v4 4).bind fun v5 =>
  (aI q2.2 v5 ((l1 * (7 : Int32)) + l2)).bind fun v6 =>
  some (v6, q2.2))))
set_option maxHeartbeats 4000000 in
set_option maxRecDepth 100000 in
theorem T_X11_stuff {P : mh_E → Prop} {N d : Nat} (hd : 3 ≤ d) {z : (Int32 × mh_H)} {h : mh_H} {l0 : Nat} {l1 : Int32} {l2 : Int32} (hq : D_X11_stuff N h l0 l1 l2 = some z) : mh_go P d mX11_stuff 0 [some (.ref l0), some (.int l1), some (.int l2)] [] h (some (.int z.1)) z.2 := by
  unfold D_X11_stuff at hq
  refine st_iload_n (pc := 0) dX11_stuff_0 rfl ?_
  obtain ⟨q1, e1, hq⟩ := mh_ob hq
  refine st_invS (pc := 1) (Y := mX11_isColour) (vs := [.int l1]) (rest := []) (st2 := [.int q1.1]) dX11_stuff_1 okX11_isColour wd_506 wd_507 pdX11_isColour rfl rfl rfl rfl (Nat.le_trans (by decide) hd) (Nat.le_of_ble_eq_true rfl) (T_X11_isColour (Nat.le_refl _) e1) rfl ?_
  refine bd_if_eq (pc := 4) (tgt := 17) hq dX11_stuff_4 (by decide) (fun _ hq => ?_) (fun _ hq => ?_)
  ·
    refine st_lesS (lv' := [some (.ref l0), none, none]) ⟨Or.inr rfl, Or.inl rfl, Or.inl rfl, trivial⟩ ?_
    exact T_X11_stuff_17 hd hq
  ·
    refine st_iload_n (pc := 7) dX11_stuff_7 rfl ?_
    refine st_iconst (pc := 8) (v := (0 : Int32)) dX11_stuff_8 rfl ?_
    refine st_bipush (pc := 9) (v := (6 : Int32)) dX11_stuff_9 (by decide) ?_
    obtain ⟨q2, e2, hq⟩ := mh_ob hq
    refine st_invS (pc := 11) (Y := mX11_within) (vs := [.int l2, .int (0 : Int32), .int (6 : Int32)]) (rest := []) (st2 := [.int q2.1]) dX11_stuff_11 okX11_within wd_323 wd_324 pdX11_within rfl rfl rfl rfl (Nat.le_trans (by decide) hd) (Nat.le_of_ble_eq_true rfl) (T_X11_within (Nat.le_refl _) e2) rfl ?_
    refine bd_if_ne (pc := 14) (tgt := 23) hq dX11_stuff_14 (by decide) (fun _ hq => ?_) (fun _ hq => ?_)
    ·
      refine st_lesS (lv' := [some (.ref l0), none, none]) ⟨Or.inr rfl, Or.inl rfl, Or.inl rfl, trivial⟩ ?_
      exact T_X11_stuff_17 hd hq
    ·
      refine st_iload_n (pc := 23) dX11_stuff_23 rfl ?_
      refine st_iconst (pc := 24) (v := (1 : Int32)) dX11_stuff_24 rfl ?_
      refine bd_icmp_ne (pc := 25) (tgt := 41) hq dX11_stuff_25 (by decide) (fun _ hq => ?_) (fun _ hq => ?_)
      ·
        refine st_aload_n (pc := 28) dX11_stuff_28 rfl ?_
        refine bd_getr (pc := 29) hq dX11_stuff_29 fl_11_12_11 rfl (fun v3 hq => ?_)
        refine st_iconst (pc := 32) (v := (1 : Int32)) dX11_stuff_32 rfl ?_
        refine st_iload_n (pc := 33) dX11_stuff_33 rfl ?_
        refine st_iadd (pc := 34) dX11_stuff_34 ?_
        obtain ⟨⟨hbq4, hkq4⟩, hq⟩ := mh_oi hq
        obtain ⟨q4, e4, hq⟩ := mh_ob hq
        refine st_invV (pc := 35) (ci := 10) (vs := [.int ((1 : Int32) + l1)]) (rest := []) (st2 := [.int q4.1]) dX11_stuff_35 okX10_allBelow (by decide) hkq4 hbq4 wd_647 wd_648 wd_649 pdX10_allBelow rfl rfl rfl rfl (Nat.le_trans (by decide) hd) (Nat.le_of_ble_eq_true rfl) (T_X10_allBelow (Nat.le_refl _) e4) rfl ?_
        refine st_goto (pc := 38) (tgt := 58) dX11_stuff_38 (by decide) ?_
        exact bd_iret (pc := 58) hq dX11_stuff_58 rfl
      ·
        refine st_aload_n (pc := 41) dX11_stuff_41 rfl ?_
        refine bd_getr (pc := 42) hq dX11_stuff_42 fl_11_12_11 rfl (fun v3 hq => ?_)
        refine bd_getr (pc := 45) hq dX11_stuff_45 fl_11_90_10 rfl (fun v4 hq => ?_)
        refine bd_getr (pc := 48) hq dX11_stuff_48 fl_11_217_8 rfl (fun v5 hq => ?_)
        refine st_iload_n (pc := 51) dX11_stuff_51 rfl ?_
        refine st_bipush (pc := 52) (v := (7 : Int32)) dX11_stuff_52 (by decide) ?_
        refine st_imul (pc := 54) dX11_stuff_54 ?_
        refine st_iload_n (pc := 55) dX11_stuff_55 rfl ?_
        refine st_iadd (pc := 56) dX11_stuff_56 ?_
        refine bd_iald (pc := 57) hq dX11_stuff_57 (fun v6 hq => ?_)
        exact bd_iret (pc := 58) hq dX11_stuff_58 rfl
-- HoleWater$Water.cameOut(III)I
theorem dX8_cameOut_0 : decode cX8_cameOut 0 = .ok (.aload_n 0, 1) := by decide +kernel
theorem dX8_cameOut_1 : decode cX8_cameOut 1 = .ok (.getfield 9, 3) := by decide +kernel
theorem dX8_cameOut_4 : decode cX8_cameOut 4 = .ok (.iload_n 3, 1) := by decide +kernel
theorem dX8_cameOut_5 : decode cX8_cameOut 5 = .ok (.isub, 1) := by decide +kernel
theorem dX8_cameOut_6 : decode cX8_cameOut 6 = .ok (.istore 4, 2) := by decide +kernel
theorem dX8_cameOut_8 : decode cX8_cameOut 8 = .ok (.iload 4, 2) := by decide +kernel
theorem dX8_cameOut_10 : decode cX8_cameOut 10 = .ok (.ifCond .ge 7, 3) := by decide +kernel
theorem dX8_cameOut_17 : decode cX8_cameOut 17 = .ok (.aload_n 0, 1) := by decide +kernel
theorem dX8_cameOut_18 : decode cX8_cameOut 18 = .ok (.getfield 44, 3) := by decide +kernel
theorem dX8_cameOut_21 : decode cX8_cameOut 21 = .ok (.iload_n 1, 1) := by decide +kernel
theorem dX8_cameOut_22 : decode cX8_cameOut 22 = .ok (.iconst 4, 1) := by decide +kernel
theorem dX8_cameOut_23 : decode cX8_cameOut 23 = .ok (.imul, 1) := by decide +kernel
theorem dX8_cameOut_24 : decode cX8_cameOut 24 = .ok (.iload_n 2, 1) := by decide +kernel
theorem dX8_cameOut_25 : decode cX8_cameOut 25 = .ok (.iadd, 1) := by decide +kernel
theorem dX8_cameOut_26 : decode cX8_cameOut 26 = .ok (.bipush 24, 2) := by decide +kernel
theorem dX8_cameOut_28 : decode cX8_cameOut 28 = .ok (.imul, 1) := by decide +kernel
theorem dX8_cameOut_29 : decode cX8_cameOut 29 = .ok (.iload 4, 2) := by decide +kernel
theorem dX8_cameOut_31 : decode cX8_cameOut 31 = .ok (.bipush 24, 2) := by decide +kernel
theorem dX8_cameOut_33 : decode cX8_cameOut 33 = .ok (.irem, 1) := by decide +kernel
theorem dX8_cameOut_34 : decode cX8_cameOut 34 = .ok (.iadd, 1) := by decide +kernel
theorem dX8_cameOut_35 : decode cX8_cameOut 35 = .ok (.iaload, 1) := by decide +kernel
theorem dX8_cameOut_36 : decode cX8_cameOut 36 = .ok (.ireturn, 1) := by decide +kernel
theorem dX8_cameOut_13 : decode cX8_cameOut 13 = .ok (.iconst 0, 1) := by decide +kernel
theorem dX8_cameOut_14 : decode cX8_cameOut 14 = .ok (.goto 22, 3) := by decide +kernel
def D_X8_cameOut (N : Nat) (h : mh_H) (l0 : Nat) (l1 : Int32) (l2 : Int32) (l3 : Int32) : Option (Int32 × mh_H) :=
  (gI h 8 l0 0).bind fun v1 =>
  if 0 ≤ (v1 - l3) then ((gR h 8 l0 10).bind fun v2 =>
  dN (24 : Int32) <|
  (aI h v2 ((((l1 * (4 : Int32)) + l2) * (24 : Int32)) + ((v1 - l3) - (v1 - l3) / (24 : Int32) * (24 : Int32)))).bind fun v3 =>
  some (v3, h))
  else (some ((0 : Int32), h))
set_option maxHeartbeats 4000000 in
set_option maxRecDepth 100000 in
theorem T_X8_cameOut {P : mh_E → Prop} {N d : Nat} (hd : 1 ≤ d) {z : (Int32 × mh_H)} {h : mh_H} {l0 : Nat} {l1 : Int32} {l2 : Int32} {l3 : Int32} (hq : D_X8_cameOut N h l0 l1 l2 l3 = some z) : mh_go P d mX8_cameOut 0 [some (.ref l0), some (.int l1), some (.int l2), some (.int l3), none] [] h (some (.int z.1)) z.2 := by
  unfold D_X8_cameOut at hq
  refine st_aload_n (pc := 0) dX8_cameOut_0 rfl ?_
  refine bd_geti (pc := 1) hq dX8_cameOut_1 fl_8_9_8 rfl (fun v1 hq => ?_)
  refine st_iload_n (pc := 4) dX8_cameOut_4 rfl ?_
  refine st_isub (pc := 5) dX8_cameOut_5 ?_
  refine st_istore (pc := 6) (lv' := [some (.ref l0), some (.int l1), some (.int l2), some (.int l3), some (.int (v1 - l3))]) dX8_cameOut_6 rfl (by decide) rfl ?_
  refine st_iload (pc := 8) dX8_cameOut_8 rfl ?_
  refine bd_if_ge (pc := 10) (tgt := 17) hq dX8_cameOut_10 (by decide) (fun _ hq => ?_) (fun _ hq => ?_)
  ·
    refine st_aload_n (pc := 17) dX8_cameOut_17 rfl ?_
    refine bd_getr (pc := 18) hq dX8_cameOut_18 fl_8_44_8 rfl (fun v2 hq => ?_)
    refine st_iload_n (pc := 21) dX8_cameOut_21 rfl ?_
    refine st_iconst (pc := 22) (v := (4 : Int32)) dX8_cameOut_22 rfl ?_
    refine st_imul (pc := 23) dX8_cameOut_23 ?_
    refine st_iload_n (pc := 24) dX8_cameOut_24 rfl ?_
    refine st_iadd (pc := 25) dX8_cameOut_25 ?_
    refine st_bipush (pc := 26) (v := (24 : Int32)) dX8_cameOut_26 (by decide) ?_
    refine st_imul (pc := 28) dX8_cameOut_28 ?_
    refine st_iload (pc := 29) dX8_cameOut_29 rfl ?_
    refine st_bipush (pc := 31) (v := (24 : Int32)) dX8_cameOut_31 (by decide) ?_
    refine bd_irem (pc := 33) hq dX8_cameOut_33 (fun hq => ?_)
    refine st_iadd (pc := 34) dX8_cameOut_34 ?_
    refine bd_iald (pc := 35) hq dX8_cameOut_35 (fun v3 hq => ?_)
    exact bd_iret (pc := 36) hq dX8_cameOut_36 rfl
  ·
    refine st_iconst (pc := 13) (v := (0 : Int32)) dX8_cameOut_13 rfl ?_
    refine st_goto (pc := 14) (tgt := 36) dX8_cameOut_14 (by decide) ?_
    exact bd_iret (pc := 36) hq dX8_cameOut_36 rfl
-- HoleWater.out(III)I
theorem dX11_out_28 : decode cX11_out 28 = .ok (.aload_n 0, 1) := by decide +kernel
theorem dX11_out_29 : decode cX11_out 29 = .ok (.iconst 1, 1) := by decide +kernel
theorem dX11_out_30 : decode cX11_out 30 = .ok (.invokevirtual 66, 3) := by decide +kernel
theorem dX11_out_33 : decode cX11_out 33 = .ok (.ireturn, 1) := by decide +kernel
theorem dX11_out_0 : decode cX11_out 0 = .ok (.aload_n 0, 1) := by decide +kernel
theorem dX11_out_1 : decode cX11_out 1 = .ok (.getfield 12, 3) := by decide +kernel
theorem dX11_out_4 : decode cX11_out 4 = .ok (.iload_n 1, 1) := by decide +kernel
theorem dX11_out_5 : decode cX11_out 5 = .ok (.invokevirtual 77, 3) := by decide +kernel
theorem dX11_out_8 : decode cX11_out 8 = .ok (.ifCond .eq 20, 3) := by decide +kernel
theorem dX11_out_11 : decode cX11_out 11 = .ok (.iload_n 2, 1) := by decide +kernel
theorem dX11_out_12 : decode cX11_out 12 = .ok (.invokestatic 183, 3) := by decide +kernel
theorem dX11_out_15 : decode cX11_out 15 = .ok (.ifCond .eq 13, 3) := by decide +kernel
theorem dX11_out_18 : decode cX11_out 18 = .ok (.iload_n 3, 1) := by decide +kernel
theorem dX11_out_19 : decode cX11_out 19 = .ok (.iconst 1, 1) := by decide +kernel
theorem dX11_out_20 : decode cX11_out 20 = .ok (.bipush 24, 2) := by decide +kernel
theorem dX11_out_22 : decode cX11_out 22 = .ok (.invokestatic 62, 3) := by decide +kernel
theorem dX11_out_25 : decode cX11_out 25 = .ok (.ifCond .ne 9, 3) := by decide +kernel
theorem dX11_out_34 : decode cX11_out 34 = .ok (.aload_n 0, 1) := by decide +kernel
theorem dX11_out_35 : decode cX11_out 35 = .ok (.getfield 12, 3) := by decide +kernel
theorem dX11_out_38 : decode cX11_out 38 = .ok (.iload_n 1, 1) := by decide +kernel
theorem dX11_out_39 : decode cX11_out 39 = .ok (.invokevirtual 109, 3) := by decide +kernel
theorem dX11_out_42 : decode cX11_out 42 = .ok (.ifCond .eq 19, 3) := by decide +kernel
theorem dX11_out_61 : decode cX11_out 61 = .ok (.aload_n 0, 1) := by decide +kernel
theorem dX11_out_62 : decode cX11_out 62 = .ok (.iconst 5, 1) := by decide +kernel
theorem dX11_out_63 : decode cX11_out 63 = .ok (.invokevirtual 66, 3) := by decide +kernel
theorem dX11_out_66 : decode cX11_out 66 = .ok (.ireturn, 1) := by decide +kernel
theorem dX11_out_45 : decode cX11_out 45 = .ok (.aload_n 0, 1) := by decide +kernel
theorem dX11_out_46 : decode cX11_out 46 = .ok (.getfield 12, 3) := by decide +kernel
theorem dX11_out_49 : decode cX11_out 49 = .ok (.getfield 90, 3) := by decide +kernel
theorem dX11_out_52 : decode cX11_out 52 = .ok (.iload_n 1, 1) := by decide +kernel
theorem dX11_out_53 : decode cX11_out 53 = .ok (.iload_n 2, 1) := by decide +kernel
theorem dX11_out_54 : decode cX11_out 54 = .ok (.iload_n 3, 1) := by decide +kernel
theorem dX11_out_55 : decode cX11_out 55 = .ok (.invokevirtual 220, 3) := by decide +kernel
theorem dX11_out_58 : decode cX11_out 58 = .ok (.goto 8, 3) := by decide +kernel
def D_X11_out_28 (N : Nat) (h : mh_H) (l0 : Nat) : Option (Int32 × mh_H) :=
  kO h 11 l0 <|
  (D_X11_error N h l0 (1 : Int32)).bind fun q1 =>
  some (q1.1, q1.2)
set_option maxHeartbeats 4000000 in
set_option maxRecDepth 100000 in
theorem T_X11_out_28 {P : mh_E → Prop} {N d : Nat} (hd : 4 ≤ d) {z : (Int32 × mh_H)} {h : mh_H} {l0 : Nat} (hq : D_X11_out_28 N h l0 = some z) : mh_go P d mX11_out 28 [some (.ref l0), none, none, none] [] h (some (.int z.1)) z.2 := by
  unfold D_X11_out_28 at hq
  refine st_aload_n (pc := 28) dX11_out_28 rfl ?_
  refine st_iconst (pc := 29) (v := (1 : Int32)) dX11_out_29 rfl ?_
  obtain ⟨⟨hbq1, hkq1⟩, hq⟩ := mh_oi hq
  obtain ⟨q1, e1, hq⟩ := mh_ob hq
  refine st_invV (pc := 30) (ci := 11) (vs := [.int (1 : Int32)]) (rest := []) (st2 := [.int q1.1]) dX11_out_30 okX11_error (by decide) hkq1 hbq1 wd_326 wd_328 wp_0 pdX11_error rfl rfl rfl rfl (Nat.le_trans (by decide) hd) (Nat.le_of_ble_eq_true rfl) (T_X11_error (Nat.le_refl _) e1) rfl ?_
  exact bd_iret (pc := 33) hq dX11_out_33 rfl
def D_X11_out (N : Nat) (h : mh_H) (l0 : Nat) (l1 : Int32) (l2 : Int32) (l3 : Int32) : Option (Int32 × mh_H) :=
  (gR h 11 l0 0).bind fun v1 =>
  kO h 10 v1 <|
  (D_X10_isJoint N h v1 l1).bind fun q2 =>
  if q2.1 = 0 then (D_X11_out_28 N q2.2 l0)
  else ((D_X11_isColour N q2.2 l2).bind fun q3 =>
  if q3.1 = 0 then (D_X11_out_28 N q3.2 l0)
  else ((D_X11_within N q3.2 l3 (1 : Int32) (24 : Int32)).bind fun q4 =>
  if q4.1 = 0 then (D_X11_out_28 N q4.2 l0)
  else ((gR q4.2 11 l0 0).bind fun v5 =>
  kO q4.2 10 v5 <|
  (D_X10_isOutlet N q4.2 v5 l1).bind fun q6 =>
  if q6.1 = 0 then (kO q6.2 11 l0 <|
  (D_X11_error N q6.2 l0 (5 : Int32)).bind fun q7 =>
  some (q7.1, q7.2))
  else ((gR q6.2 11 l0 0).bind fun v7 =>
  (gR q6.2 10 v7 7).bind fun v8 =>
  kO q6.2 8 v8 <|
  (D_X8_cameOut N q6.2 v8 l1 l2 l3).bind fun q9 =>
  some (q9.1, q9.2)))))
set_option maxHeartbeats 4000000 in
set_option maxRecDepth 100000 in
theorem T_X11_out {P : mh_E → Prop} {N d : Nat} (hd : 4 ≤ d) {z : (Int32 × mh_H)} {h : mh_H} {l0 : Nat} {l1 : Int32} {l2 : Int32} {l3 : Int32} (hq : D_X11_out N h l0 l1 l2 l3 = some z) : mh_go P d mX11_out 0 [some (.ref l0), some (.int l1), some (.int l2), some (.int l3)] [] h (some (.int z.1)) z.2 := by
  unfold D_X11_out at hq
  refine st_aload_n (pc := 0) dX11_out_0 rfl ?_
  refine bd_getr (pc := 1) hq dX11_out_1 fl_11_12_11 rfl (fun v1 hq => ?_)
  refine st_iload_n (pc := 4) dX11_out_4 rfl ?_
  obtain ⟨⟨hbq2, hkq2⟩, hq⟩ := mh_oi hq
  obtain ⟨q2, e2, hq⟩ := mh_ob hq
  refine st_invV (pc := 5) (ci := 10) (vs := [.int l1]) (rest := []) (st2 := [.int q2.1]) dX11_out_5 okX10_isJoint (by decide) hkq2 hbq2 wd_339 wd_340 wd_341 pdX10_isJoint rfl rfl rfl rfl (Nat.le_trans (by decide) hd) (Nat.le_of_ble_eq_true rfl) (T_X10_isJoint (Nat.le_refl _) e2) rfl ?_
  refine bd_if_eq (pc := 8) (tgt := 28) hq dX11_out_8 (by decide) (fun _ hq => ?_) (fun _ hq => ?_)
  ·
    refine st_lesS (lv' := [some (.ref l0), none, none, none]) ⟨Or.inr rfl, Or.inl rfl, Or.inl rfl, Or.inl rfl, trivial⟩ ?_
    exact T_X11_out_28 hd hq
  ·
    refine st_iload_n (pc := 11) dX11_out_11 rfl ?_
    obtain ⟨q3, e3, hq⟩ := mh_ob hq
    refine st_invS (pc := 12) (Y := mX11_isColour) (vs := [.int l2]) (rest := []) (st2 := [.int q3.1]) dX11_out_12 okX11_isColour wd_506 wd_507 pdX11_isColour rfl rfl rfl rfl (Nat.le_trans (by decide) hd) (Nat.le_of_ble_eq_true rfl) (T_X11_isColour (Nat.le_refl _) e3) rfl ?_
    refine bd_if_eq (pc := 15) (tgt := 28) hq dX11_out_15 (by decide) (fun _ hq => ?_) (fun _ hq => ?_)
    ·
      refine st_lesS (lv' := [some (.ref l0), none, none, none]) ⟨Or.inr rfl, Or.inl rfl, Or.inl rfl, Or.inl rfl, trivial⟩ ?_
      exact T_X11_out_28 hd hq
    ·
      refine st_iload_n (pc := 18) dX11_out_18 rfl ?_
      refine st_iconst (pc := 19) (v := (1 : Int32)) dX11_out_19 rfl ?_
      refine st_bipush (pc := 20) (v := (24 : Int32)) dX11_out_20 (by decide) ?_
      obtain ⟨q4, e4, hq⟩ := mh_ob hq
      refine st_invS (pc := 22) (Y := mX11_within) (vs := [.int l3, .int (1 : Int32), .int (24 : Int32)]) (rest := []) (st2 := [.int q4.1]) dX11_out_22 okX11_within wd_323 wd_324 pdX11_within rfl rfl rfl rfl (Nat.le_trans (by decide) hd) (Nat.le_of_ble_eq_true rfl) (T_X11_within (Nat.le_refl _) e4) rfl ?_
      refine bd_if_ne (pc := 25) (tgt := 34) hq dX11_out_25 (by decide) (fun _ hq => ?_) (fun _ hq => ?_)
      ·
        refine st_lesS (lv' := [some (.ref l0), none, none, none]) ⟨Or.inr rfl, Or.inl rfl, Or.inl rfl, Or.inl rfl, trivial⟩ ?_
        exact T_X11_out_28 hd hq
      ·
        refine st_aload_n (pc := 34) dX11_out_34 rfl ?_
        refine bd_getr (pc := 35) hq dX11_out_35 fl_11_12_11 rfl (fun v5 hq => ?_)
        refine st_iload_n (pc := 38) dX11_out_38 rfl ?_
        obtain ⟨⟨hbq6, hkq6⟩, hq⟩ := mh_oi hq
        obtain ⟨q6, e6, hq⟩ := mh_ob hq
        refine st_invV (pc := 39) (ci := 10) (vs := [.int l1]) (rest := []) (st2 := [.int q6.1]) dX11_out_39 okX10_isOutlet (by decide) hkq6 hbq6 wd_350 wd_351 wd_352 pdX10_isOutlet rfl rfl rfl rfl (Nat.le_trans (by decide) hd) (Nat.le_of_ble_eq_true rfl) (T_X10_isOutlet (Nat.le_refl _) e6) rfl ?_
        refine bd_if_eq (pc := 42) (tgt := 61) hq dX11_out_42 (by decide) (fun _ hq => ?_) (fun _ hq => ?_)
        ·
          refine st_aload_n (pc := 61) dX11_out_61 rfl ?_
          refine st_iconst (pc := 62) (v := (5 : Int32)) dX11_out_62 rfl ?_
          obtain ⟨⟨hbq7, hkq7⟩, hq⟩ := mh_oi hq
          obtain ⟨q7, e7, hq⟩ := mh_ob hq
          refine st_invV (pc := 63) (ci := 11) (vs := [.int (5 : Int32)]) (rest := []) (st2 := [.int q7.1]) dX11_out_63 okX11_error (by decide) hkq7 hbq7 wd_326 wd_328 wp_0 pdX11_error rfl rfl rfl rfl (Nat.le_trans (by decide) hd) (Nat.le_of_ble_eq_true rfl) (T_X11_error (Nat.le_refl _) e7) rfl ?_
          exact bd_iret (pc := 66) hq dX11_out_66 rfl
        ·
          refine st_aload_n (pc := 45) dX11_out_45 rfl ?_
          refine bd_getr (pc := 46) hq dX11_out_46 fl_11_12_11 rfl (fun v7 hq => ?_)
          refine bd_getr (pc := 49) hq dX11_out_49 fl_11_90_10 rfl (fun v8 hq => ?_)
          refine st_iload_n (pc := 52) dX11_out_52 rfl ?_
          refine st_iload_n (pc := 53) dX11_out_53 rfl ?_
          refine st_iload_n (pc := 54) dX11_out_54 rfl ?_
          obtain ⟨⟨hbq9, hkq9⟩, hq⟩ := mh_oi hq
          obtain ⟨q9, e9, hq⟩ := mh_ob hq
          refine st_invV (pc := 55) (ci := 8) (vs := [.int l1, .int l2, .int l3]) (rest := []) (st2 := [.int q9.1]) dX11_out_55 okX8_cameOut (by decide) hkq9 hbq9 wd_656 wd_657 wd_658 pdX8_cameOut rfl rfl rfl rfl (Nat.le_trans (by decide) hd) (Nat.le_of_ble_eq_true rfl) (T_X8_cameOut (Nat.le_refl _) e9) rfl ?_
          refine st_goto (pc := 58) (tgt := 66) dX11_out_58 (by decide) ?_
          exact bd_iret (pc := 66) hq dX11_out_66 rfl
-- HoleWater.spillError(III)I
theorem dX11_spillError_0 : decode cX11_spillError 0 = .ok (.aload_n 0, 1) := by decide +kernel
theorem dX11_spillError_1 : decode cX11_spillError 1 = .ok (.getfield 12, 3) := by decide +kernel
theorem dX11_spillError_4 : decode cX11_spillError 4 = .ok (.iload_n 1, 1) := by decide +kernel
theorem dX11_spillError_5 : decode cX11_spillError 5 = .ok (.invokevirtual 77, 3) := by decide +kernel
theorem dX11_spillError_8 : decode cX11_spillError 8 = .ok (.ifCond .eq 25, 3) := by decide +kernel
theorem dX11_spillError_33 : decode cX11_spillError 33 = .ok (.iconst 1, 1) := by decide +kernel
theorem dX11_spillError_34 : decode cX11_spillError 34 = .ok (.ireturn, 1) := by decide +kernel
theorem dX11_spillError_11 : decode cX11_spillError 11 = .ok (.iload_n 2, 1) := by decide +kernel
theorem dX11_spillError_12 : decode cX11_spillError 12 = .ok (.iconst 1, 1) := by decide +kernel
theorem dX11_spillError_13 : decode cX11_spillError 13 = .ok (.sipush 9999, 3) := by decide +kernel
theorem dX11_spillError_16 : decode cX11_spillError 16 = .ok (.invokestatic 62, 3) := by decide +kernel
theorem dX11_spillError_19 : decode cX11_spillError 19 = .ok (.ifCond .eq 14, 3) := by decide +kernel
theorem dX11_spillError_22 : decode cX11_spillError 22 = .ok (.aload_n 0, 1) := by decide +kernel
theorem dX11_spillError_23 : decode cX11_spillError 23 = .ok (.getfield 12, 3) := by decide +kernel
theorem dX11_spillError_26 : decode cX11_spillError 26 = .ok (.iload_n 3, 1) := by decide +kernel
theorem dX11_spillError_27 : decode cX11_spillError 27 = .ok (.invokevirtual 77, 3) := by decide +kernel
theorem dX11_spillError_30 : decode cX11_spillError 30 = .ok (.ifCond .ne 5, 3) := by decide +kernel
theorem dX11_spillError_35 : decode cX11_spillError 35 = .ok (.aload_n 0, 1) := by decide +kernel
theorem dX11_spillError_36 : decode cX11_spillError 36 = .ok (.getfield 12, 3) := by decide +kernel
theorem dX11_spillError_39 : decode cX11_spillError 39 = .ok (.iload_n 1, 1) := by decide +kernel
theorem dX11_spillError_40 : decode cX11_spillError 40 = .ok (.iconst 0, 1) := by decide +kernel
theorem dX11_spillError_41 : decode cX11_spillError 41 = .ok (.invokevirtual 112, 3) := by decide +kernel
theorem dX11_spillError_44 : decode cX11_spillError 44 = .ok (.ifCond .eq 18, 3) := by decide +kernel
theorem dX11_spillError_62 : decode cX11_spillError 62 = .ok (.iconst 5, 1) := by decide +kernel
theorem dX11_spillError_63 : decode cX11_spillError 63 = .ok (.ireturn, 1) := by decide +kernel
theorem dX11_spillError_47 : decode cX11_spillError 47 = .ok (.aload_n 0, 1) := by decide +kernel
theorem dX11_spillError_48 : decode cX11_spillError 48 = .ok (.getfield 12, 3) := by decide +kernel
theorem dX11_spillError_51 : decode cX11_spillError 51 = .ok (.iload_n 3, 1) := by decide +kernel
theorem dX11_spillError_52 : decode cX11_spillError 52 = .ok (.invokevirtual 109, 3) := by decide +kernel
theorem dX11_spillError_55 : decode cX11_spillError 55 = .ok (.ifCond .eq 7, 3) := by decide +kernel
theorem dX11_spillError_58 : decode cX11_spillError 58 = .ok (.iconst 0, 1) := by decide +kernel
theorem dX11_spillError_59 : decode cX11_spillError 59 = .ok (.goto 4, 3) := by decide +kernel
def D_X11_spillError (N : Nat) (h : mh_H) (l0 : Nat) (l1 : Int32) (l2 : Int32) (l3 : Int32) : Option (Int32 × mh_H) :=
  (gR h 11 l0 0).bind fun v1 =>
  kO h 10 v1 <|
  (D_X10_isJoint N h v1 l1).bind fun q2 =>
  if q2.1 = 0 then (some ((1 : Int32), q2.2))
  else ((D_X11_within N q2.2 l2 (1 : Int32) (9999 : Int32)).bind fun q3 =>
  if q3.1 = 0 then (some ((1 : Int32), q3.2))
  else ((gR q3.2 11 l0 0).bind fun v4 =>
  kO q3.2 10 v4 <|
  (D_X10_isJoint N q3.2 v4 l3).bind fun q5 =>
  if q5.1 = 0 then (some ((1 : Int32), q5.2))
  else ((gR q5.2 11 l0 0).bind fun v6 =>
  kO q5.2 10 v6 <|
  (D_X10_isOf N q5.2 v6 l1 (0 : Int32)).bind fun q7 =>
  if q7.1 = 0 then (some ((5 : Int32), q7.2))
  else ((gR q7.2 11 l0 0).bind fun v8 =>
  kO q7.2 10 v8 <|
  (D_X10_isOutlet N q7.2 v8 l3).bind fun q9 =>
  if q9.1 = 0 then (some ((5 : Int32), q9.2))
  else (some ((0 : Int32), q9.2))))))
set_option maxHeartbeats 4000000 in
set_option maxRecDepth 100000 in
theorem T_X11_spillError {P : mh_E → Prop} {N d : Nat} (hd : 4 ≤ d) {z : (Int32 × mh_H)} {h : mh_H} {l0 : Nat} {l1 : Int32} {l2 : Int32} {l3 : Int32} (hq : D_X11_spillError N h l0 l1 l2 l3 = some z) : mh_go P d mX11_spillError 0 [some (.ref l0), some (.int l1), some (.int l2), some (.int l3)] [] h (some (.int z.1)) z.2 := by
  unfold D_X11_spillError at hq
  refine st_aload_n (pc := 0) dX11_spillError_0 rfl ?_
  refine bd_getr (pc := 1) hq dX11_spillError_1 fl_11_12_11 rfl (fun v1 hq => ?_)
  refine st_iload_n (pc := 4) dX11_spillError_4 rfl ?_
  obtain ⟨⟨hbq2, hkq2⟩, hq⟩ := mh_oi hq
  obtain ⟨q2, e2, hq⟩ := mh_ob hq
  refine st_invV (pc := 5) (ci := 10) (vs := [.int l1]) (rest := []) (st2 := [.int q2.1]) dX11_spillError_5 okX10_isJoint (by decide) hkq2 hbq2 wd_339 wd_340 wd_341 pdX10_isJoint rfl rfl rfl rfl (Nat.le_trans (by decide) hd) (Nat.le_of_ble_eq_true rfl) (T_X10_isJoint (Nat.le_refl _) e2) rfl ?_
  refine bd_if_eq (pc := 8) (tgt := 33) hq dX11_spillError_8 (by decide) (fun _ hq => ?_) (fun _ hq => ?_)
  ·
    refine st_iconst (pc := 33) (v := (1 : Int32)) dX11_spillError_33 rfl ?_
    exact bd_iret (pc := 34) hq dX11_spillError_34 rfl
  ·
    refine st_iload_n (pc := 11) dX11_spillError_11 rfl ?_
    refine st_iconst (pc := 12) (v := (1 : Int32)) dX11_spillError_12 rfl ?_
    refine st_sipush (pc := 13) (v := (9999 : Int32)) dX11_spillError_13 (by decide) ?_
    obtain ⟨q3, e3, hq⟩ := mh_ob hq
    refine st_invS (pc := 16) (Y := mX11_within) (vs := [.int l2, .int (1 : Int32), .int (9999 : Int32)]) (rest := []) (st2 := [.int q3.1]) dX11_spillError_16 okX11_within wd_323 wd_324 pdX11_within rfl rfl rfl rfl (Nat.le_trans (by decide) hd) (Nat.le_of_ble_eq_true rfl) (T_X11_within (Nat.le_refl _) e3) rfl ?_
    refine bd_if_eq (pc := 19) (tgt := 33) hq dX11_spillError_19 (by decide) (fun _ hq => ?_) (fun _ hq => ?_)
    ·
      refine st_iconst (pc := 33) (v := (1 : Int32)) dX11_spillError_33 rfl ?_
      exact bd_iret (pc := 34) hq dX11_spillError_34 rfl
    ·
      refine st_aload_n (pc := 22) dX11_spillError_22 rfl ?_
      refine bd_getr (pc := 23) hq dX11_spillError_23 fl_11_12_11 rfl (fun v4 hq => ?_)
      refine st_iload_n (pc := 26) dX11_spillError_26 rfl ?_
      obtain ⟨⟨hbq5, hkq5⟩, hq⟩ := mh_oi hq
      obtain ⟨q5, e5, hq⟩ := mh_ob hq
      refine st_invV (pc := 27) (ci := 10) (vs := [.int l3]) (rest := []) (st2 := [.int q5.1]) dX11_spillError_27 okX10_isJoint (by decide) hkq5 hbq5 wd_339 wd_340 wd_341 pdX10_isJoint rfl rfl rfl rfl (Nat.le_trans (by decide) hd) (Nat.le_of_ble_eq_true rfl) (T_X10_isJoint (Nat.le_refl _) e5) rfl ?_
      refine bd_if_ne (pc := 30) (tgt := 35) hq dX11_spillError_30 (by decide) (fun _ hq => ?_) (fun _ hq => ?_)
      ·
        refine st_iconst (pc := 33) (v := (1 : Int32)) dX11_spillError_33 rfl ?_
        exact bd_iret (pc := 34) hq dX11_spillError_34 rfl
      ·
        refine st_aload_n (pc := 35) dX11_spillError_35 rfl ?_
        refine bd_getr (pc := 36) hq dX11_spillError_36 fl_11_12_11 rfl (fun v6 hq => ?_)
        refine st_iload_n (pc := 39) dX11_spillError_39 rfl ?_
        refine st_iconst (pc := 40) (v := (0 : Int32)) dX11_spillError_40 rfl ?_
        obtain ⟨⟨hbq7, hkq7⟩, hq⟩ := mh_oi hq
        obtain ⟨q7, e7, hq⟩ := mh_ob hq
        refine st_invV (pc := 41) (ci := 10) (vs := [.int l1, .int (0 : Int32)]) (rest := []) (st2 := [.int q7.1]) dX11_spillError_41 okX10_isOf (by decide) hkq7 hbq7 wd_359 wd_355 wd_356 pdX10_isOf rfl rfl rfl rfl (Nat.le_trans (by decide) hd) (Nat.le_of_ble_eq_true rfl) (T_X10_isOf (Nat.le_refl _) e7) rfl ?_
        refine bd_if_eq (pc := 44) (tgt := 62) hq dX11_spillError_44 (by decide) (fun _ hq => ?_) (fun _ hq => ?_)
        ·
          refine st_iconst (pc := 62) (v := (5 : Int32)) dX11_spillError_62 rfl ?_
          exact bd_iret (pc := 63) hq dX11_spillError_63 rfl
        ·
          refine st_aload_n (pc := 47) dX11_spillError_47 rfl ?_
          refine bd_getr (pc := 48) hq dX11_spillError_48 fl_11_12_11 rfl (fun v8 hq => ?_)
          refine st_iload_n (pc := 51) dX11_spillError_51 rfl ?_
          obtain ⟨⟨hbq9, hkq9⟩, hq⟩ := mh_oi hq
          obtain ⟨q9, e9, hq⟩ := mh_ob hq
          refine st_invV (pc := 52) (ci := 10) (vs := [.int l3]) (rest := []) (st2 := [.int q9.1]) dX11_spillError_52 okX10_isOutlet (by decide) hkq9 hbq9 wd_350 wd_351 wd_352 pdX10_isOutlet rfl rfl rfl rfl (Nat.le_trans (by decide) hd) (Nat.le_of_ble_eq_true rfl) (T_X10_isOutlet (Nat.le_refl _) e9) rfl ?_
          refine bd_if_eq (pc := 55) (tgt := 62) hq dX11_spillError_55 (by decide) (fun _ hq => ?_) (fun _ hq => ?_)
          ·
            refine st_iconst (pc := 62) (v := (5 : Int32)) dX11_spillError_62 rfl ?_
            exact bd_iret (pc := 63) hq dX11_spillError_63 rfl
          ·
            refine st_iconst (pc := 58) (v := (0 : Int32)) dX11_spillError_58 rfl ?_
            refine st_goto (pc := 59) (tgt := 63) dX11_spillError_59 (by decide) ?_
            exact bd_iret (pc := 63) hq dX11_spillError_63 rfl
-- HoleWater$Water.copyOf(LHoleWater$Water;)V
theorem dX8_copyOf_0 : decode cX8_copyOf 0 = .ok (.aload_n 0, 1) := by decide +kernel
theorem dX8_copyOf_1 : decode cX8_copyOf 1 = .ok (.aload_n 1, 1) := by decide +kernel
theorem dX8_copyOf_2 : decode cX8_copyOf 2 = .ok (.getfield 9, 3) := by decide +kernel
theorem dX8_copyOf_5 : decode cX8_copyOf 5 = .ok (.putfield 9, 3) := by decide +kernel
theorem dX8_copyOf_8 : decode cX8_copyOf 8 = .ok (.aload_n 0, 1) := by decide +kernel
theorem dX8_copyOf_9 : decode cX8_copyOf 9 = .ok (.aload_n 1, 1) := by decide +kernel
theorem dX8_copyOf_10 : decode cX8_copyOf 10 = .ok (.getfield 15, 3) := by decide +kernel
theorem dX8_copyOf_13 : decode cX8_copyOf 13 = .ok (.putfield 15, 3) := by decide +kernel
theorem dX8_copyOf_16 : decode cX8_copyOf 16 = .ok (.aload_n 0, 1) := by decide +kernel
theorem dX8_copyOf_17 : decode cX8_copyOf 17 = .ok (.aload_n 1, 1) := by decide +kernel
theorem dX8_copyOf_18 : decode cX8_copyOf 18 = .ok (.getfield 19, 3) := by decide +kernel
theorem dX8_copyOf_21 : decode cX8_copyOf 21 = .ok (.putfield 19, 3) := by decide +kernel
theorem dX8_copyOf_24 : decode cX8_copyOf 24 = .ok (.aload_n 1, 1) := by decide +kernel
theorem dX8_copyOf_25 : decode cX8_copyOf 25 = .ok (.getfield 22, 3) := by decide +kernel
theorem dX8_copyOf_28 : decode cX8_copyOf 28 = .ok (.iconst 0, 1) := by decide +kernel
theorem dX8_copyOf_29 : decode cX8_copyOf 29 = .ok (.aload_n 0, 1) := by decide +kernel
theorem dX8_copyOf_30 : decode cX8_copyOf 30 = .ok (.getfield 22, 3) := by decide +kernel
theorem dX8_copyOf_33 : decode cX8_copyOf 33 = .ok (.iconst 0, 1) := by decide +kernel
theorem dX8_copyOf_34 : decode cX8_copyOf 34 = .ok (.aload_n 0, 1) := by decide +kernel
theorem dX8_copyOf_35 : decode cX8_copyOf 35 = .ok (.getfield 22, 3) := by decide +kernel
theorem dX8_copyOf_38 : decode cX8_copyOf 38 = .ok (.arraylength, 1) := by decide +kernel
theorem dX8_copyOf_39 : decode cX8_copyOf 39 = .ok (.invokestatic 50, 3) := by decide +kernel
theorem dX8_copyOf_42 : decode cX8_copyOf 42 = .ok (.aload_n 1, 1) := by decide +kernel
theorem dX8_copyOf_43 : decode cX8_copyOf 43 = .ok (.getfield 26, 3) := by decide +kernel
theorem dX8_copyOf_46 : decode cX8_copyOf 46 = .ok (.iconst 0, 1) := by decide +kernel
theorem dX8_copyOf_47 : decode cX8_copyOf 47 = .ok (.aload_n 0, 1) := by decide +kernel
theorem dX8_copyOf_48 : decode cX8_copyOf 48 = .ok (.getfield 26, 3) := by decide +kernel
theorem dX8_copyOf_51 : decode cX8_copyOf 51 = .ok (.iconst 0, 1) := by decide +kernel
theorem dX8_copyOf_52 : decode cX8_copyOf 52 = .ok (.aload_n 0, 1) := by decide +kernel
theorem dX8_copyOf_53 : decode cX8_copyOf 53 = .ok (.getfield 26, 3) := by decide +kernel
theorem dX8_copyOf_56 : decode cX8_copyOf 56 = .ok (.arraylength, 1) := by decide +kernel
theorem dX8_copyOf_57 : decode cX8_copyOf 57 = .ok (.invokestatic 50, 3) := by decide +kernel
theorem dX8_copyOf_60 : decode cX8_copyOf 60 = .ok (.aload_n 1, 1) := by decide +kernel
theorem dX8_copyOf_61 : decode cX8_copyOf 61 = .ok (.getfield 29, 3) := by decide +kernel
theorem dX8_copyOf_64 : decode cX8_copyOf 64 = .ok (.iconst 0, 1) := by decide +kernel
theorem dX8_copyOf_65 : decode cX8_copyOf 65 = .ok (.aload_n 0, 1) := by decide +kernel
theorem dX8_copyOf_66 : decode cX8_copyOf 66 = .ok (.getfield 29, 3) := by decide +kernel
theorem dX8_copyOf_69 : decode cX8_copyOf 69 = .ok (.iconst 0, 1) := by decide +kernel
theorem dX8_copyOf_70 : decode cX8_copyOf 70 = .ok (.aload_n 0, 1) := by decide +kernel
theorem dX8_copyOf_71 : decode cX8_copyOf 71 = .ok (.getfield 29, 3) := by decide +kernel
theorem dX8_copyOf_74 : decode cX8_copyOf 74 = .ok (.arraylength, 1) := by decide +kernel
theorem dX8_copyOf_75 : decode cX8_copyOf 75 = .ok (.invokestatic 50, 3) := by decide +kernel
theorem dX8_copyOf_78 : decode cX8_copyOf 78 = .ok (.aload_n 1, 1) := by decide +kernel
theorem dX8_copyOf_79 : decode cX8_copyOf 79 = .ok (.getfield 32, 3) := by decide +kernel
theorem dX8_copyOf_82 : decode cX8_copyOf 82 = .ok (.iconst 0, 1) := by decide +kernel
theorem dX8_copyOf_83 : decode cX8_copyOf 83 = .ok (.aload_n 0, 1) := by decide +kernel
theorem dX8_copyOf_84 : decode cX8_copyOf 84 = .ok (.getfield 32, 3) := by decide +kernel
theorem dX8_copyOf_87 : decode cX8_copyOf 87 = .ok (.iconst 0, 1) := by decide +kernel
theorem dX8_copyOf_88 : decode cX8_copyOf 88 = .ok (.aload_n 0, 1) := by decide +kernel
theorem dX8_copyOf_89 : decode cX8_copyOf 89 = .ok (.getfield 32, 3) := by decide +kernel
theorem dX8_copyOf_92 : decode cX8_copyOf 92 = .ok (.arraylength, 1) := by decide +kernel
theorem dX8_copyOf_93 : decode cX8_copyOf 93 = .ok (.invokestatic 50, 3) := by decide +kernel
theorem dX8_copyOf_96 : decode cX8_copyOf 96 = .ok (.aload_n 1, 1) := by decide +kernel
theorem dX8_copyOf_97 : decode cX8_copyOf 97 = .ok (.getfield 35, 3) := by decide +kernel
theorem dX8_copyOf_100 : decode cX8_copyOf 100 = .ok (.iconst 0, 1) := by decide +kernel
theorem dX8_copyOf_101 : decode cX8_copyOf 101 = .ok (.aload_n 0, 1) := by decide +kernel
theorem dX8_copyOf_102 : decode cX8_copyOf 102 = .ok (.getfield 35, 3) := by decide +kernel
theorem dX8_copyOf_105 : decode cX8_copyOf 105 = .ok (.iconst 0, 1) := by decide +kernel
theorem dX8_copyOf_106 : decode cX8_copyOf 106 = .ok (.aload_n 0, 1) := by decide +kernel
theorem dX8_copyOf_107 : decode cX8_copyOf 107 = .ok (.getfield 35, 3) := by decide +kernel
theorem dX8_copyOf_110 : decode cX8_copyOf 110 = .ok (.arraylength, 1) := by decide +kernel
theorem dX8_copyOf_111 : decode cX8_copyOf 111 = .ok (.invokestatic 50, 3) := by decide +kernel
theorem dX8_copyOf_114 : decode cX8_copyOf 114 = .ok (.aload_n 1, 1) := by decide +kernel
theorem dX8_copyOf_115 : decode cX8_copyOf 115 = .ok (.getfield 38, 3) := by decide +kernel
theorem dX8_copyOf_118 : decode cX8_copyOf 118 = .ok (.iconst 0, 1) := by decide +kernel
theorem dX8_copyOf_119 : decode cX8_copyOf 119 = .ok (.aload_n 0, 1) := by decide +kernel
theorem dX8_copyOf_120 : decode cX8_copyOf 120 = .ok (.getfield 38, 3) := by decide +kernel
theorem dX8_copyOf_123 : decode cX8_copyOf 123 = .ok (.iconst 0, 1) := by decide +kernel
theorem dX8_copyOf_124 : decode cX8_copyOf 124 = .ok (.aload_n 0, 1) := by decide +kernel
theorem dX8_copyOf_125 : decode cX8_copyOf 125 = .ok (.getfield 38, 3) := by decide +kernel
theorem dX8_copyOf_128 : decode cX8_copyOf 128 = .ok (.arraylength, 1) := by decide +kernel
theorem dX8_copyOf_129 : decode cX8_copyOf 129 = .ok (.invokestatic 50, 3) := by decide +kernel
theorem dX8_copyOf_132 : decode cX8_copyOf 132 = .ok (.aload_n 1, 1) := by decide +kernel
theorem dX8_copyOf_133 : decode cX8_copyOf 133 = .ok (.getfield 41, 3) := by decide +kernel
theorem dX8_copyOf_136 : decode cX8_copyOf 136 = .ok (.iconst 0, 1) := by decide +kernel
theorem dX8_copyOf_137 : decode cX8_copyOf 137 = .ok (.aload_n 0, 1) := by decide +kernel
theorem dX8_copyOf_138 : decode cX8_copyOf 138 = .ok (.getfield 41, 3) := by decide +kernel
theorem dX8_copyOf_141 : decode cX8_copyOf 141 = .ok (.iconst 0, 1) := by decide +kernel
theorem dX8_copyOf_142 : decode cX8_copyOf 142 = .ok (.aload_n 0, 1) := by decide +kernel
theorem dX8_copyOf_143 : decode cX8_copyOf 143 = .ok (.getfield 41, 3) := by decide +kernel
theorem dX8_copyOf_146 : decode cX8_copyOf 146 = .ok (.arraylength, 1) := by decide +kernel
theorem dX8_copyOf_147 : decode cX8_copyOf 147 = .ok (.invokestatic 50, 3) := by decide +kernel
theorem dX8_copyOf_150 : decode cX8_copyOf 150 = .ok (.aload_n 1, 1) := by decide +kernel
theorem dX8_copyOf_151 : decode cX8_copyOf 151 = .ok (.getfield 44, 3) := by decide +kernel
theorem dX8_copyOf_154 : decode cX8_copyOf 154 = .ok (.iconst 0, 1) := by decide +kernel
theorem dX8_copyOf_155 : decode cX8_copyOf 155 = .ok (.aload_n 0, 1) := by decide +kernel
theorem dX8_copyOf_156 : decode cX8_copyOf 156 = .ok (.getfield 44, 3) := by decide +kernel
theorem dX8_copyOf_159 : decode cX8_copyOf 159 = .ok (.iconst 0, 1) := by decide +kernel
theorem dX8_copyOf_160 : decode cX8_copyOf 160 = .ok (.aload_n 0, 1) := by decide +kernel
theorem dX8_copyOf_161 : decode cX8_copyOf 161 = .ok (.getfield 44, 3) := by decide +kernel
theorem dX8_copyOf_164 : decode cX8_copyOf 164 = .ok (.arraylength, 1) := by decide +kernel
theorem dX8_copyOf_165 : decode cX8_copyOf 165 = .ok (.invokestatic 50, 3) := by decide +kernel
theorem dX8_copyOf_168 : decode cX8_copyOf 168 = .ok (.return_, 1) := by decide +kernel
def D_X8_copyOf (N : Nat) (h : mh_H) (l0 : Nat) (l1 : Nat) : Option mh_H :=
  (gI h 8 l1 0).bind fun v1 =>
  (pI h 8 l0 0 v1).bind fun h2 =>
  (gI h2 8 l1 1).bind fun v3 =>
  (pB h2 8 l0 1 v3).bind fun h4 =>
  (gI h4 8 l1 2).bind fun v5 =>
  (pI h4 8 l0 2 v5).bind fun h6 =>
  (gR h6 8 l1 3).bind fun v7 =>
  (gR h6 8 l0 3).bind fun v8 =>
  (gR h6 8 l0 3).bind fun v9 =>
  (aL h6 v9).bind fun v10 =>
  (cP h6 v7 v8 (0 : Int32) (0 : Int32) v10).bind fun h11 =>
  (gR h11 8 l1 4).bind fun v12 =>
  (gR h11 8 l0 4).bind fun v13 =>
  (gR h11 8 l0 4).bind fun v14 =>
  (aL h11 v14).bind fun v15 =>
  (cP h11 v12 v13 (0 : Int32) (0 : Int32) v15).bind fun h16 =>
  (gR h16 8 l1 5).bind fun v17 =>
  (gR h16 8 l0 5).bind fun v18 =>
  (gR h16 8 l0 5).bind fun v19 =>
  (aL h16 v19).bind fun v20 =>
  (cP h16 v17 v18 (0 : Int32) (0 : Int32) v20).bind fun h21 =>
  (gR h21 8 l1 6).bind fun v22 =>
  (gR h21 8 l0 6).bind fun v23 =>
  (gR h21 8 l0 6).bind fun v24 =>
  (aL h21 v24).bind fun v25 =>
  (cP h21 v22 v23 (0 : Int32) (0 : Int32) v25).bind fun h26 =>
  (gR h26 8 l1 7).bind fun v27 =>
  (gR h26 8 l0 7).bind fun v28 =>
  (gR h26 8 l0 7).bind fun v29 =>
  (aL h26 v29).bind fun v30 =>
  (cP h26 v27 v28 (0 : Int32) (0 : Int32) v30).bind fun h31 =>
  (gR h31 8 l1 8).bind fun v32 =>
  (gR h31 8 l0 8).bind fun v33 =>
  (gR h31 8 l0 8).bind fun v34 =>
  (aL h31 v34).bind fun v35 =>
  (cP h31 v32 v33 (0 : Int32) (0 : Int32) v35).bind fun h36 =>
  (gR h36 8 l1 9).bind fun v37 =>
  (gR h36 8 l0 9).bind fun v38 =>
  (gR h36 8 l0 9).bind fun v39 =>
  (aL h36 v39).bind fun v40 =>
  (cP h36 v37 v38 (0 : Int32) (0 : Int32) v40).bind fun h41 =>
  (gR h41 8 l1 10).bind fun v42 =>
  (gR h41 8 l0 10).bind fun v43 =>
  (gR h41 8 l0 10).bind fun v44 =>
  (aL h41 v44).bind fun v45 =>
  (cP h41 v42 v43 (0 : Int32) (0 : Int32) v45).bind fun h46 =>
  some h46
set_option maxHeartbeats 4000000 in
set_option maxRecDepth 100000 in
theorem T_X8_copyOf {P : mh_E → Prop} {N d : Nat} (hd : 1 ≤ d) {z : mh_H} {h : mh_H} {l0 : Nat} {l1 : Nat} (hq : D_X8_copyOf N h l0 l1 = some z) : mh_go P d mX8_copyOf 0 [some (.ref l0), some (.ref l1)] [] h none z := by
  unfold D_X8_copyOf at hq
  refine st_aload_n (pc := 0) dX8_copyOf_0 rfl ?_
  refine st_aload_n (pc := 1) dX8_copyOf_1 rfl ?_
  refine bd_geti (pc := 2) hq dX8_copyOf_2 fl_8_9_8 rfl (fun v1 hq => ?_)
  refine bd_puti (pc := 5) hq dX8_copyOf_5 fl_8_9_8 (Or.inl rfl) rfl (fun h2 hq => ?_)
  refine st_aload_n (pc := 8) dX8_copyOf_8 rfl ?_
  refine st_aload_n (pc := 9) dX8_copyOf_9 rfl ?_
  refine bd_geti (pc := 10) hq dX8_copyOf_10 fl_8_15_8 rfl (fun v3 hq => ?_)
  refine bd_putb (pc := 13) hq dX8_copyOf_13 fl_8_15_8 (Or.inl rfl) rfl (fun h4 hq => ?_)
  refine st_aload_n (pc := 16) dX8_copyOf_16 rfl ?_
  refine st_aload_n (pc := 17) dX8_copyOf_17 rfl ?_
  refine bd_geti (pc := 18) hq dX8_copyOf_18 fl_8_19_8 rfl (fun v5 hq => ?_)
  refine bd_puti (pc := 21) hq dX8_copyOf_21 fl_8_19_8 (Or.inl rfl) rfl (fun h6 hq => ?_)
  refine st_aload_n (pc := 24) dX8_copyOf_24 rfl ?_
  refine bd_getr (pc := 25) hq dX8_copyOf_25 fl_8_22_8 rfl (fun v7 hq => ?_)
  refine st_iconst (pc := 28) (v := (0 : Int32)) dX8_copyOf_28 rfl ?_
  refine st_aload_n (pc := 29) dX8_copyOf_29 rfl ?_
  refine bd_getr (pc := 30) hq dX8_copyOf_30 fl_8_22_8 rfl (fun v8 hq => ?_)
  refine st_iconst (pc := 33) (v := (0 : Int32)) dX8_copyOf_33 rfl ?_
  refine st_aload_n (pc := 34) dX8_copyOf_34 rfl ?_
  refine bd_getr (pc := 35) hq dX8_copyOf_35 fl_8_22_8 rfl (fun v9 hq => ?_)
  refine bd_alen (pc := 38) hq dX8_copyOf_38 (fun v10 hq => ?_)
  refine bd_copy (pc := 39) hq dX8_copyOf_39 wd_676 wd_678 wd_677 wd_16 (Nat.le_trans (by decide) hd) (Nat.le_of_ble_eq_true rfl) (fun h11 hq => ?_)
  refine st_aload_n (pc := 42) dX8_copyOf_42 rfl ?_
  refine bd_getr (pc := 43) hq dX8_copyOf_43 fl_8_26_8 rfl (fun v12 hq => ?_)
  refine st_iconst (pc := 46) (v := (0 : Int32)) dX8_copyOf_46 rfl ?_
  refine st_aload_n (pc := 47) dX8_copyOf_47 rfl ?_
  refine bd_getr (pc := 48) hq dX8_copyOf_48 fl_8_26_8 rfl (fun v13 hq => ?_)
  refine st_iconst (pc := 51) (v := (0 : Int32)) dX8_copyOf_51 rfl ?_
  refine st_aload_n (pc := 52) dX8_copyOf_52 rfl ?_
  refine bd_getr (pc := 53) hq dX8_copyOf_53 fl_8_26_8 rfl (fun v14 hq => ?_)
  refine bd_alen (pc := 56) hq dX8_copyOf_56 (fun v15 hq => ?_)
  refine bd_copy (pc := 57) hq dX8_copyOf_57 wd_676 wd_678 wd_677 wd_16 (Nat.le_trans (by decide) hd) (Nat.le_of_ble_eq_true rfl) (fun h16 hq => ?_)
  refine st_aload_n (pc := 60) dX8_copyOf_60 rfl ?_
  refine bd_getr (pc := 61) hq dX8_copyOf_61 fl_8_29_8 rfl (fun v17 hq => ?_)
  refine st_iconst (pc := 64) (v := (0 : Int32)) dX8_copyOf_64 rfl ?_
  refine st_aload_n (pc := 65) dX8_copyOf_65 rfl ?_
  refine bd_getr (pc := 66) hq dX8_copyOf_66 fl_8_29_8 rfl (fun v18 hq => ?_)
  refine st_iconst (pc := 69) (v := (0 : Int32)) dX8_copyOf_69 rfl ?_
  refine st_aload_n (pc := 70) dX8_copyOf_70 rfl ?_
  refine bd_getr (pc := 71) hq dX8_copyOf_71 fl_8_29_8 rfl (fun v19 hq => ?_)
  refine bd_alen (pc := 74) hq dX8_copyOf_74 (fun v20 hq => ?_)
  refine bd_copy (pc := 75) hq dX8_copyOf_75 wd_676 wd_678 wd_677 wd_16 (Nat.le_trans (by decide) hd) (Nat.le_of_ble_eq_true rfl) (fun h21 hq => ?_)
  refine st_aload_n (pc := 78) dX8_copyOf_78 rfl ?_
  refine bd_getr (pc := 79) hq dX8_copyOf_79 fl_8_32_8 rfl (fun v22 hq => ?_)
  refine st_iconst (pc := 82) (v := (0 : Int32)) dX8_copyOf_82 rfl ?_
  refine st_aload_n (pc := 83) dX8_copyOf_83 rfl ?_
  refine bd_getr (pc := 84) hq dX8_copyOf_84 fl_8_32_8 rfl (fun v23 hq => ?_)
  refine st_iconst (pc := 87) (v := (0 : Int32)) dX8_copyOf_87 rfl ?_
  refine st_aload_n (pc := 88) dX8_copyOf_88 rfl ?_
  refine bd_getr (pc := 89) hq dX8_copyOf_89 fl_8_32_8 rfl (fun v24 hq => ?_)
  refine bd_alen (pc := 92) hq dX8_copyOf_92 (fun v25 hq => ?_)
  refine bd_copy (pc := 93) hq dX8_copyOf_93 wd_676 wd_678 wd_677 wd_16 (Nat.le_trans (by decide) hd) (Nat.le_of_ble_eq_true rfl) (fun h26 hq => ?_)
  refine st_aload_n (pc := 96) dX8_copyOf_96 rfl ?_
  refine bd_getr (pc := 97) hq dX8_copyOf_97 fl_8_35_8 rfl (fun v27 hq => ?_)
  refine st_iconst (pc := 100) (v := (0 : Int32)) dX8_copyOf_100 rfl ?_
  refine st_aload_n (pc := 101) dX8_copyOf_101 rfl ?_
  refine bd_getr (pc := 102) hq dX8_copyOf_102 fl_8_35_8 rfl (fun v28 hq => ?_)
  refine st_iconst (pc := 105) (v := (0 : Int32)) dX8_copyOf_105 rfl ?_
  refine st_aload_n (pc := 106) dX8_copyOf_106 rfl ?_
  refine bd_getr (pc := 107) hq dX8_copyOf_107 fl_8_35_8 rfl (fun v29 hq => ?_)
  refine bd_alen (pc := 110) hq dX8_copyOf_110 (fun v30 hq => ?_)
  refine bd_copy (pc := 111) hq dX8_copyOf_111 wd_676 wd_678 wd_677 wd_16 (Nat.le_trans (by decide) hd) (Nat.le_of_ble_eq_true rfl) (fun h31 hq => ?_)
  refine st_aload_n (pc := 114) dX8_copyOf_114 rfl ?_
  refine bd_getr (pc := 115) hq dX8_copyOf_115 fl_8_38_8 rfl (fun v32 hq => ?_)
  refine st_iconst (pc := 118) (v := (0 : Int32)) dX8_copyOf_118 rfl ?_
  refine st_aload_n (pc := 119) dX8_copyOf_119 rfl ?_
  refine bd_getr (pc := 120) hq dX8_copyOf_120 fl_8_38_8 rfl (fun v33 hq => ?_)
  refine st_iconst (pc := 123) (v := (0 : Int32)) dX8_copyOf_123 rfl ?_
  refine st_aload_n (pc := 124) dX8_copyOf_124 rfl ?_
  refine bd_getr (pc := 125) hq dX8_copyOf_125 fl_8_38_8 rfl (fun v34 hq => ?_)
  refine bd_alen (pc := 128) hq dX8_copyOf_128 (fun v35 hq => ?_)
  refine bd_copy (pc := 129) hq dX8_copyOf_129 wd_676 wd_678 wd_677 wd_16 (Nat.le_trans (by decide) hd) (Nat.le_of_ble_eq_true rfl) (fun h36 hq => ?_)
  refine st_aload_n (pc := 132) dX8_copyOf_132 rfl ?_
  refine bd_getr (pc := 133) hq dX8_copyOf_133 fl_8_41_8 rfl (fun v37 hq => ?_)
  refine st_iconst (pc := 136) (v := (0 : Int32)) dX8_copyOf_136 rfl ?_
  refine st_aload_n (pc := 137) dX8_copyOf_137 rfl ?_
  refine bd_getr (pc := 138) hq dX8_copyOf_138 fl_8_41_8 rfl (fun v38 hq => ?_)
  refine st_iconst (pc := 141) (v := (0 : Int32)) dX8_copyOf_141 rfl ?_
  refine st_aload_n (pc := 142) dX8_copyOf_142 rfl ?_
  refine bd_getr (pc := 143) hq dX8_copyOf_143 fl_8_41_8 rfl (fun v39 hq => ?_)
  refine bd_alen (pc := 146) hq dX8_copyOf_146 (fun v40 hq => ?_)
  refine bd_copy (pc := 147) hq dX8_copyOf_147 wd_676 wd_678 wd_677 wd_16 (Nat.le_trans (by decide) hd) (Nat.le_of_ble_eq_true rfl) (fun h41 hq => ?_)
  refine st_aload_n (pc := 150) dX8_copyOf_150 rfl ?_
  refine bd_getr (pc := 151) hq dX8_copyOf_151 fl_8_44_8 rfl (fun v42 hq => ?_)
  refine st_iconst (pc := 154) (v := (0 : Int32)) dX8_copyOf_154 rfl ?_
  refine st_aload_n (pc := 155) dX8_copyOf_155 rfl ?_
  refine bd_getr (pc := 156) hq dX8_copyOf_156 fl_8_44_8 rfl (fun v43 hq => ?_)
  refine st_iconst (pc := 159) (v := (0 : Int32)) dX8_copyOf_159 rfl ?_
  refine st_aload_n (pc := 160) dX8_copyOf_160 rfl ?_
  refine bd_getr (pc := 161) hq dX8_copyOf_161 fl_8_44_8 rfl (fun v44 hq => ?_)
  refine bd_alen (pc := 164) hq dX8_copyOf_164 (fun v45 hq => ?_)
  refine bd_copy (pc := 165) hq dX8_copyOf_165 wd_676 wd_678 wd_677 wd_16 (Nat.le_trans (by decide) hd) (Nat.le_of_ble_eq_true rfl) (fun h46 hq => ?_)
  exact bd_vret (pc := 168) hq dX8_copyOf_168 rfl
-- HoleWater$Water.startSpill(LHoleWater$Water;II)V
theorem dX8_startSpill_68 : decode cX8_startSpill 68 = .ok (.iload 5, 2) := by decide +kernel
theorem dX8_startSpill_70 : decode cX8_startSpill 70 = .ok (.aload_n 0, 1) := by decide +kernel
theorem dX8_startSpill_71 : decode cX8_startSpill 71 = .ok (.getfield 35, 3) := by decide +kernel
theorem dX8_startSpill_74 : decode cX8_startSpill 74 = .ok (.arraylength, 1) := by decide +kernel
theorem dX8_startSpill_75 : decode cX8_startSpill 75 = .ok (.if_icmp .ge 17, 3) := by decide +kernel
theorem dX8_startSpill_92 : decode cX8_startSpill 92 = .ok (.aload_n 0, 1) := by decide +kernel
theorem dX8_startSpill_93 : decode cX8_startSpill 93 = .ok (.getfield 29, 3) := by decide +kernel
theorem dX8_startSpill_96 : decode cX8_startSpill 96 = .ok (.iload_n 2, 1) := by decide +kernel
theorem dX8_startSpill_97 : decode cX8_startSpill 97 = .ok (.iconst 5, 1) := by decide +kernel
theorem dX8_startSpill_98 : decode cX8_startSpill 98 = .ok (.imul, 1) := by decide +kernel
theorem dX8_startSpill_99 : decode cX8_startSpill 99 = .ok (.iload 4, 2) := by decide +kernel
theorem dX8_startSpill_101 : decode cX8_startSpill 101 = .ok (.iadd, 1) := by decide +kernel
theorem dX8_startSpill_102 : decode cX8_startSpill 102 = .ok (.iload_n 3, 1) := by decide +kernel
theorem dX8_startSpill_103 : decode cX8_startSpill 103 = .ok (.iastore, 1) := by decide +kernel
theorem dX8_startSpill_104 : decode cX8_startSpill 104 = .ok (.return_, 1) := by decide +kernel
theorem dX8_startSpill_78 : decode cX8_startSpill 78 = .ok (.aload_n 0, 1) := by decide +kernel
theorem dX8_startSpill_79 : decode cX8_startSpill 79 = .ok (.getfield 35, 3) := by decide +kernel
theorem dX8_startSpill_82 : decode cX8_startSpill 82 = .ok (.iload 5, 2) := by decide +kernel
theorem dX8_startSpill_84 : decode cX8_startSpill 84 = .ok (.iconst 0, 1) := by decide +kernel
theorem dX8_startSpill_85 : decode cX8_startSpill 85 = .ok (.iastore, 1) := by decide +kernel
theorem dX8_startSpill_86 : decode cX8_startSpill 86 = .ok (.iinc 5 5, 3) := by decide +kernel
theorem dX8_startSpill_89 : decode cX8_startSpill 89 = .ok (.goto (-21), 3) := by decide +kernel
theorem dX8_startSpill_40 : decode cX8_startSpill 40 = .ok (.iload 5, 2) := by decide +kernel
theorem dX8_startSpill_42 : decode cX8_startSpill 42 = .ok (.aload_n 0, 1) := by decide +kernel
theorem dX8_startSpill_43 : decode cX8_startSpill 43 = .ok (.getfield 32, 3) := by decide +kernel
theorem dX8_startSpill_46 : decode cX8_startSpill 46 = .ok (.arraylength, 1) := by decide +kernel
theorem dX8_startSpill_47 : decode cX8_startSpill 47 = .ok (.if_icmp .ge 17, 3) := by decide +kernel
theorem dX8_startSpill_64 : decode cX8_startSpill 64 = .ok (.iload 4, 2) := by decide +kernel
theorem dX8_startSpill_66 : decode cX8_startSpill 66 = .ok (.istore 5, 2) := by decide +kernel
theorem dX8_startSpill_50 : decode cX8_startSpill 50 = .ok (.aload_n 0, 1) := by decide +kernel
theorem dX8_startSpill_51 : decode cX8_startSpill 51 = .ok (.getfield 32, 3) := by decide +kernel
theorem dX8_startSpill_54 : decode cX8_startSpill 54 = .ok (.iload 5, 2) := by decide +kernel
theorem dX8_startSpill_56 : decode cX8_startSpill 56 = .ok (.iconst 0, 1) := by decide +kernel
theorem dX8_startSpill_57 : decode cX8_startSpill 57 = .ok (.iastore, 1) := by decide +kernel
theorem dX8_startSpill_58 : decode cX8_startSpill 58 = .ok (.iinc 5 5, 3) := by decide +kernel
theorem dX8_startSpill_61 : decode cX8_startSpill 61 = .ok (.goto (-21), 3) := by decide +kernel
theorem dX8_startSpill_12 : decode cX8_startSpill 12 = .ok (.iload 5, 2) := by decide +kernel
theorem dX8_startSpill_14 : decode cX8_startSpill 14 = .ok (.aload_n 0, 1) := by decide +kernel
theorem dX8_startSpill_15 : decode cX8_startSpill 15 = .ok (.getfield 29, 3) := by decide +kernel
theorem dX8_startSpill_18 : decode cX8_startSpill 18 = .ok (.arraylength, 1) := by decide +kernel
theorem dX8_startSpill_19 : decode cX8_startSpill 19 = .ok (.if_icmp .ge 17, 3) := by decide +kernel
theorem dX8_startSpill_36 : decode cX8_startSpill 36 = .ok (.iload 4, 2) := by decide +kernel
theorem dX8_startSpill_38 : decode cX8_startSpill 38 = .ok (.istore 5, 2) := by decide +kernel
theorem dX8_startSpill_22 : decode cX8_startSpill 22 = .ok (.aload_n 0, 1) := by decide +kernel
theorem dX8_startSpill_23 : decode cX8_startSpill 23 = .ok (.getfield 29, 3) := by decide +kernel
theorem dX8_startSpill_26 : decode cX8_startSpill 26 = .ok (.iload 5, 2) := by decide +kernel
theorem dX8_startSpill_28 : decode cX8_startSpill 28 = .ok (.iconst 0, 1) := by decide +kernel
theorem dX8_startSpill_29 : decode cX8_startSpill 29 = .ok (.iastore, 1) := by decide +kernel
theorem dX8_startSpill_30 : decode cX8_startSpill 30 = .ok (.iinc 5 5, 3) := by decide +kernel
theorem dX8_startSpill_33 : decode cX8_startSpill 33 = .ok (.goto (-21), 3) := by decide +kernel
theorem dX8_startSpill_0 : decode cX8_startSpill 0 = .ok (.aload_n 0, 1) := by decide +kernel
theorem dX8_startSpill_1 : decode cX8_startSpill 1 = .ok (.aload_n 1, 1) := by decide +kernel
theorem dX8_startSpill_2 : decode cX8_startSpill 2 = .ok (.invokevirtual 56, 3) := by decide +kernel
theorem dX8_startSpill_5 : decode cX8_startSpill 5 = .ok (.iconst 4, 1) := by decide +kernel
theorem dX8_startSpill_6 : decode cX8_startSpill 6 = .ok (.istore 4, 2) := by decide +kernel
theorem dX8_startSpill_8 : decode cX8_startSpill 8 = .ok (.iload 4, 2) := by decide +kernel
theorem dX8_startSpill_10 : decode cX8_startSpill 10 = .ok (.istore 5, 2) := by decide +kernel
def D_X8_startSpill_68 (N : Nat) : Nat → mh_H → Nat → Int32 → Int32 → Int32 → Int32 → Option mh_H
  | 0, _, _, _, _, _, _ => none
  | F + 1, h, l0, l2, l3, l4, l5 =>
    (gR h 8 l0 7).bind fun v1 =>
    (aL h v1).bind fun v2 =>
    if v2 ≤ l5 then ((gR h 8 l0 5).bind fun v3 =>
    (uI h v3 ((l2 * (5 : Int32)) + l4) l3).bind fun h4 =>
    some h4)
    else ((gR h 8 l0 7).bind fun v3 =>
    (uI h v3 l5 (0 : Int32)).bind fun h4 =>
    (D_X8_startSpill_68 N F) h4 l0 l2 l3 l4 (l5 + Int32.ofInt (5)))
set_option maxHeartbeats 4000000 in
set_option maxRecDepth 100000 in
theorem T_X8_startSpill_68 {P : mh_E → Prop} {N d : Nat} (hd : 2 ≤ d) {z : mh_H} : ∀ (F : Nat) (h : mh_H) (l0 : Nat) (l2 : Int32) (l3 : Int32) (l4 : Int32) (l5 : Int32), D_X8_startSpill_68 N F h l0 l2 l3 l4 l5 = some z → mh_go P d mX8_startSpill 68 [some (.ref l0), none, some (.int l2), some (.int l3), some (.int l4), some (.int l5)] [] h none z := by
  intro F
  induction F with
  | zero => intro h l0 l2 l3 l4 l5 hq; rw [D_X8_startSpill_68] at hq; cases hq
  | succ F ih =>
    intro h l0 l2 l3 l4 l5 hq
    rw [D_X8_startSpill_68] at hq
    refine st_iload (pc := 68) dX8_startSpill_68 rfl ?_
    refine st_aload_n (pc := 70) dX8_startSpill_70 rfl ?_
    refine bd_getr (pc := 71) hq dX8_startSpill_71 fl_8_35_8 rfl (fun v1 hq => ?_)
    refine bd_alen (pc := 74) hq dX8_startSpill_74 (fun v2 hq => ?_)
    refine bd_icmp_ge (pc := 75) (tgt := 92) hq dX8_startSpill_75 (by decide) (fun _ hq => ?_) (fun _ hq => ?_)
    ·
      refine st_aload_n (pc := 92) dX8_startSpill_92 rfl ?_
      refine bd_getr (pc := 93) hq dX8_startSpill_93 fl_8_29_8 rfl (fun v3 hq => ?_)
      refine st_iload_n (pc := 96) dX8_startSpill_96 rfl ?_
      refine st_iconst (pc := 97) (v := (5 : Int32)) dX8_startSpill_97 rfl ?_
      refine st_imul (pc := 98) dX8_startSpill_98 ?_
      refine st_iload (pc := 99) dX8_startSpill_99 rfl ?_
      refine st_iadd (pc := 101) dX8_startSpill_101 ?_
      refine st_iload_n (pc := 102) dX8_startSpill_102 rfl ?_
      refine bd_iast (pc := 103) hq dX8_startSpill_103 (fun h4 hq => ?_)
      exact bd_vret (pc := 104) hq dX8_startSpill_104 rfl
    ·
      refine st_aload_n (pc := 78) dX8_startSpill_78 rfl ?_
      refine bd_getr (pc := 79) hq dX8_startSpill_79 fl_8_35_8 rfl (fun v3 hq => ?_)
      refine st_iload (pc := 82) dX8_startSpill_82 rfl ?_
      refine st_iconst (pc := 84) (v := (0 : Int32)) dX8_startSpill_84 rfl ?_
      refine bd_iast (pc := 85) hq dX8_startSpill_85 (fun h4 hq => ?_)
      refine st_iinc (pc := 86) (lv' := [some (.ref l0), none, some (.int l2), some (.int l3), some (.int l4), some (.int (l5 + Int32.ofInt (5)))]) dX8_startSpill_86 rfl rfl (by decide) rfl ?_
      refine st_goto (pc := 89) (tgt := 68) dX8_startSpill_89 (by decide) ?_
      exact ih _ _ _ _ _ _ hq
def D_X8_startSpill_40 (N : Nat) : Nat → mh_H → Nat → Int32 → Int32 → Int32 → Int32 → Option mh_H
  | 0, _, _, _, _, _, _ => none
  | F + 1, h, l0, l2, l3, l4, l5 =>
    (gR h 8 l0 6).bind fun v1 =>
    (aL h v1).bind fun v2 =>
    if v2 ≤ l5 then (D_X8_startSpill_68 N N h l0 l2 l3 l4 l4)
    else ((gR h 8 l0 6).bind fun v3 =>
    (uI h v3 l5 (0 : Int32)).bind fun h4 =>
    (D_X8_startSpill_40 N F) h4 l0 l2 l3 l4 (l5 + Int32.ofInt (5)))
set_option maxHeartbeats 4000000 in
set_option maxRecDepth 100000 in
theorem T_X8_startSpill_40 {P : mh_E → Prop} {N d : Nat} (hd : 2 ≤ d) {z : mh_H} : ∀ (F : Nat) (h : mh_H) (l0 : Nat) (l2 : Int32) (l3 : Int32) (l4 : Int32) (l5 : Int32), D_X8_startSpill_40 N F h l0 l2 l3 l4 l5 = some z → mh_go P d mX8_startSpill 40 [some (.ref l0), none, some (.int l2), some (.int l3), some (.int l4), some (.int l5)] [] h none z := by
  intro F
  induction F with
  | zero => intro h l0 l2 l3 l4 l5 hq; rw [D_X8_startSpill_40] at hq; cases hq
  | succ F ih =>
    intro h l0 l2 l3 l4 l5 hq
    rw [D_X8_startSpill_40] at hq
    refine st_iload (pc := 40) dX8_startSpill_40 rfl ?_
    refine st_aload_n (pc := 42) dX8_startSpill_42 rfl ?_
    refine bd_getr (pc := 43) hq dX8_startSpill_43 fl_8_32_8 rfl (fun v1 hq => ?_)
    refine bd_alen (pc := 46) hq dX8_startSpill_46 (fun v2 hq => ?_)
    refine bd_icmp_ge (pc := 47) (tgt := 64) hq dX8_startSpill_47 (by decide) (fun _ hq => ?_) (fun _ hq => ?_)
    ·
      refine st_iload (pc := 64) dX8_startSpill_64 rfl ?_
      refine st_istore (pc := 66) (lv' := [some (.ref l0), none, some (.int l2), some (.int l3), some (.int l4), some (.int l4)]) dX8_startSpill_66 rfl (by decide) rfl ?_
      exact T_X8_startSpill_68 hd N _ _ _ _ _ _ hq
    ·
      refine st_aload_n (pc := 50) dX8_startSpill_50 rfl ?_
      refine bd_getr (pc := 51) hq dX8_startSpill_51 fl_8_32_8 rfl (fun v3 hq => ?_)
      refine st_iload (pc := 54) dX8_startSpill_54 rfl ?_
      refine st_iconst (pc := 56) (v := (0 : Int32)) dX8_startSpill_56 rfl ?_
      refine bd_iast (pc := 57) hq dX8_startSpill_57 (fun h4 hq => ?_)
      refine st_iinc (pc := 58) (lv' := [some (.ref l0), none, some (.int l2), some (.int l3), some (.int l4), some (.int (l5 + Int32.ofInt (5)))]) dX8_startSpill_58 rfl rfl (by decide) rfl ?_
      refine st_goto (pc := 61) (tgt := 40) dX8_startSpill_61 (by decide) ?_
      exact ih _ _ _ _ _ _ hq
def D_X8_startSpill_12 (N : Nat) : Nat → mh_H → Nat → Int32 → Int32 → Int32 → Int32 → Option mh_H
  | 0, _, _, _, _, _, _ => none
  | F + 1, h, l0, l2, l3, l4, l5 =>
    (gR h 8 l0 5).bind fun v1 =>
    (aL h v1).bind fun v2 =>
    if v2 ≤ l5 then (D_X8_startSpill_40 N N h l0 l2 l3 l4 l4)
    else ((gR h 8 l0 5).bind fun v3 =>
    (uI h v3 l5 (0 : Int32)).bind fun h4 =>
    (D_X8_startSpill_12 N F) h4 l0 l2 l3 l4 (l5 + Int32.ofInt (5)))
set_option maxHeartbeats 4000000 in
set_option maxRecDepth 100000 in
theorem T_X8_startSpill_12 {P : mh_E → Prop} {N d : Nat} (hd : 2 ≤ d) {z : mh_H} : ∀ (F : Nat) (h : mh_H) (l0 : Nat) (l2 : Int32) (l3 : Int32) (l4 : Int32) (l5 : Int32), D_X8_startSpill_12 N F h l0 l2 l3 l4 l5 = some z → mh_go P d mX8_startSpill 12 [some (.ref l0), none, some (.int l2), some (.int l3), some (.int l4), some (.int l5)] [] h none z := by
  intro F
  induction F with
  | zero => intro h l0 l2 l3 l4 l5 hq; rw [D_X8_startSpill_12] at hq; cases hq
  | succ F ih =>
    intro h l0 l2 l3 l4 l5 hq
    rw [D_X8_startSpill_12] at hq
    refine st_iload (pc := 12) dX8_startSpill_12 rfl ?_
    refine st_aload_n (pc := 14) dX8_startSpill_14 rfl ?_
    refine bd_getr (pc := 15) hq dX8_startSpill_15 fl_8_29_8 rfl (fun v1 hq => ?_)
    refine bd_alen (pc := 18) hq dX8_startSpill_18 (fun v2 hq => ?_)
    refine bd_icmp_ge (pc := 19) (tgt := 36) hq dX8_startSpill_19 (by decide) (fun _ hq => ?_) (fun _ hq => ?_)
    ·
      refine st_iload (pc := 36) dX8_startSpill_36 rfl ?_
      refine st_istore (pc := 38) (lv' := [some (.ref l0), none, some (.int l2), some (.int l3), some (.int l4), some (.int l4)]) dX8_startSpill_38 rfl (by decide) rfl ?_
      exact T_X8_startSpill_40 hd N _ _ _ _ _ _ hq
    ·
      refine st_aload_n (pc := 22) dX8_startSpill_22 rfl ?_
      refine bd_getr (pc := 23) hq dX8_startSpill_23 fl_8_29_8 rfl (fun v3 hq => ?_)
      refine st_iload (pc := 26) dX8_startSpill_26 rfl ?_
      refine st_iconst (pc := 28) (v := (0 : Int32)) dX8_startSpill_28 rfl ?_
      refine bd_iast (pc := 29) hq dX8_startSpill_29 (fun h4 hq => ?_)
      refine st_iinc (pc := 30) (lv' := [some (.ref l0), none, some (.int l2), some (.int l3), some (.int l4), some (.int (l5 + Int32.ofInt (5)))]) dX8_startSpill_30 rfl rfl (by decide) rfl ?_
      refine st_goto (pc := 33) (tgt := 12) dX8_startSpill_33 (by decide) ?_
      exact ih _ _ _ _ _ _ hq
def D_X8_startSpill (N : Nat) (h : mh_H) (l0 : Nat) (l1 : Nat) (l2 : Int32) (l3 : Int32) : Option mh_H :=
  kO h 8 l0 <|
  (D_X8_copyOf N h l0 l1).bind fun q1 =>
  D_X8_startSpill_12 N N q1 l0 l2 l3 (4 : Int32) (4 : Int32)
set_option maxHeartbeats 4000000 in
set_option maxRecDepth 100000 in
theorem T_X8_startSpill {P : mh_E → Prop} {N d : Nat} (hd : 2 ≤ d) {z : mh_H} {h : mh_H} {l0 : Nat} {l1 : Nat} {l2 : Int32} {l3 : Int32} (hq : D_X8_startSpill N h l0 l1 l2 l3 = some z) : mh_go P d mX8_startSpill 0 [some (.ref l0), some (.ref l1), some (.int l2), some (.int l3), none, none] [] h none z := by
  unfold D_X8_startSpill at hq
  refine st_aload_n (pc := 0) dX8_startSpill_0 rfl ?_
  refine st_aload_n (pc := 1) dX8_startSpill_1 rfl ?_
  obtain ⟨⟨hbq1, hkq1⟩, hq⟩ := mh_oi hq
  obtain ⟨q1, e1, hq⟩ := mh_ob hq
  refine st_invV (pc := 2) (ci := 8) (vs := [.ref l1]) (rest := []) (st2 := []) dX8_startSpill_2 okX8_copyOf (by decide) hkq1 hbq1 wd_672 wd_673 wd_674 pdX8_copyOf rfl rfl rfl rfl (Nat.le_trans (by decide) hd) (Nat.le_of_ble_eq_true rfl) (T_X8_copyOf (Nat.le_refl _) e1) rfl ?_
  refine st_iconst (pc := 5) (v := (4 : Int32)) dX8_startSpill_5 rfl ?_
  refine st_istore (pc := 6) (lv' := [some (.ref l0), some (.ref l1), some (.int l2), some (.int l3), some (.int (4 : Int32)), none]) dX8_startSpill_6 rfl (by decide) rfl ?_
  refine st_iload (pc := 8) dX8_startSpill_8 rfl ?_
  refine st_istore (pc := 10) (lv' := [some (.ref l0), some (.ref l1), some (.int l2), some (.int l3), some (.int (4 : Int32)), some (.int (4 : Int32))]) dX8_startSpill_10 rfl (by decide) rfl ?_
  refine st_lesS (lv' := [some (.ref l0), none, some (.int l2), some (.int l3), some (.int (4 : Int32)), some (.int (4 : Int32))]) ⟨Or.inr rfl, Or.inl rfl, Or.inr rfl, Or.inr rfl, Or.inr rfl, Or.inr rfl, trivial⟩ ?_
  exact T_X8_startSpill_12 hd N _ _ _ _ _ _ hq
-- HoleWater.spill(IIII)I
theorem dX11_spill_26 : decode cX11_spill 26 = .ok (.aload_n 0, 1) := by decide +kernel
theorem dX11_spill_27 : decode cX11_spill 27 = .ok (.iconst 1, 1) := by decide +kernel
theorem dX11_spill_28 : decode cX11_spill 28 = .ok (.invokevirtual 66, 3) := by decide +kernel
theorem dX11_spill_31 : decode cX11_spill 31 = .ok (.ireturn, 1) := by decide +kernel
theorem dX11_spill_66 : decode cX11_spill 66 = .ok (.iload 7, 2) := by decide +kernel
theorem dX11_spill_68 : decode cX11_spill 68 = .ok (.iload 4, 2) := by decide +kernel
theorem dX11_spill_70 : decode cX11_spill 70 = .ok (.if_icmp .ge 39, 3) := by decide +kernel
theorem dX11_spill_109 : decode cX11_spill 109 = .ok (.iload 6, 2) := by decide +kernel
theorem dX11_spill_111 : decode cX11_spill 111 = .ok (.ireturn, 1) := by decide +kernel
theorem dX11_spill_73 : decode cX11_spill 73 = .ok (.aload_n 0, 1) := by decide +kernel
theorem dX11_spill_74 : decode cX11_spill 74 = .ok (.getfield 22, 3) := by decide +kernel
theorem dX11_spill_77 : decode cX11_spill 77 = .ok (.aload_n 0, 1) := by decide +kernel
theorem dX11_spill_78 : decode cX11_spill 78 = .ok (.getfield 12, 3) := by decide +kernel
theorem dX11_spill_81 : decode cX11_spill 81 = .ok (.aload_n 0, 1) := by decide +kernel
theorem dX11_spill_82 : decode cX11_spill 82 = .ok (.getfield 29, 3) := by decide +kernel
theorem dX11_spill_85 : decode cX11_spill 85 = .ok (.invokevirtual 192, 3) := by decide +kernel
theorem dX11_spill_88 : decode cX11_spill 88 = .ok (.iload 6, 2) := by decide +kernel
theorem dX11_spill_90 : decode cX11_spill 90 = .ok (.aload_n 0, 1) := by decide +kernel
theorem dX11_spill_91 : decode cX11_spill 91 = .ok (.getfield 22, 3) := by decide +kernel
theorem dX11_spill_94 : decode cX11_spill 94 = .ok (.iload_n 3, 1) := by decide +kernel
theorem dX11_spill_95 : decode cX11_spill 95 = .ok (.iconst 3, 1) := by decide +kernel
theorem dX11_spill_96 : decode cX11_spill 96 = .ok (.iconst 1, 1) := by decide +kernel
theorem dX11_spill_97 : decode cX11_spill 97 = .ok (.invokevirtual 220, 3) := by decide +kernel
theorem dX11_spill_100 : decode cX11_spill 100 = .ok (.iadd, 1) := by decide +kernel
theorem dX11_spill_101 : decode cX11_spill 101 = .ok (.istore 6, 2) := by decide +kernel
theorem dX11_spill_103 : decode cX11_spill 103 = .ok (.iinc 7 1, 3) := by decide +kernel
theorem dX11_spill_106 : decode cX11_spill 106 = .ok (.goto (-40), 3) := by decide +kernel
theorem dX11_spill_0 : decode cX11_spill 0 = .ok (.aload_n 0, 1) := by decide +kernel
theorem dX11_spill_1 : decode cX11_spill 1 = .ok (.iload_n 1, 1) := by decide +kernel
theorem dX11_spill_2 : decode cX11_spill 2 = .ok (.iload_n 2, 1) := by decide +kernel
theorem dX11_spill_3 : decode cX11_spill 3 = .ok (.iload_n 3, 1) := by decide +kernel
theorem dX11_spill_4 : decode cX11_spill 4 = .ok (.invokevirtual 223, 3) := by decide +kernel
theorem dX11_spill_7 : decode cX11_spill 7 = .ok (.istore 5, 2) := by decide +kernel
theorem dX11_spill_9 : decode cX11_spill 9 = .ok (.iload 5, 2) := by decide +kernel
theorem dX11_spill_11 : decode cX11_spill 11 = .ok (.iconst 1, 1) := by decide +kernel
theorem dX11_spill_12 : decode cX11_spill 12 = .ok (.if_icmp .eq 14, 3) := by decide +kernel
theorem dX11_spill_15 : decode cX11_spill 15 = .ok (.iload 4, 2) := by decide +kernel
theorem dX11_spill_17 : decode cX11_spill 17 = .ok (.iconst 1, 1) := by decide +kernel
theorem dX11_spill_18 : decode cX11_spill 18 = .ok (.bipush 60, 2) := by decide +kernel
theorem dX11_spill_20 : decode cX11_spill 20 = .ok (.invokestatic 62, 3) := by decide +kernel
theorem dX11_spill_23 : decode cX11_spill 23 = .ok (.ifCond .ne 9, 3) := by decide +kernel
theorem dX11_spill_32 : decode cX11_spill 32 = .ok (.iload 5, 2) := by decide +kernel
theorem dX11_spill_34 : decode cX11_spill 34 = .ok (.ifCond .eq 10, 3) := by decide +kernel
theorem dX11_spill_44 : decode cX11_spill 44 = .ok (.aload_n 0, 1) := by decide +kernel
theorem dX11_spill_45 : decode cX11_spill 45 = .ok (.getfield 22, 3) := by decide +kernel
theorem dX11_spill_48 : decode cX11_spill 48 = .ok (.aload_n 0, 1) := by decide +kernel
theorem dX11_spill_49 : decode cX11_spill 49 = .ok (.getfield 12, 3) := by decide +kernel
theorem dX11_spill_52 : decode cX11_spill 52 = .ok (.getfield 90, 3) := by decide +kernel
theorem dX11_spill_55 : decode cX11_spill 55 = .ok (.iload_n 1, 1) := by decide +kernel
theorem dX11_spill_56 : decode cX11_spill 56 = .ok (.iload_n 2, 1) := by decide +kernel
theorem dX11_spill_57 : decode cX11_spill 57 = .ok (.invokevirtual 226, 3) := by decide +kernel
theorem dX11_spill_60 : decode cX11_spill 60 = .ok (.iconst 0, 1) := by decide +kernel
theorem dX11_spill_61 : decode cX11_spill 61 = .ok (.istore 6, 2) := by decide +kernel
theorem dX11_spill_63 : decode cX11_spill 63 = .ok (.iconst 0, 1) := by decide +kernel
theorem dX11_spill_64 : decode cX11_spill 64 = .ok (.istore 7, 2) := by decide +kernel
theorem dX11_spill_37 : decode cX11_spill 37 = .ok (.aload_n 0, 1) := by decide +kernel
theorem dX11_spill_38 : decode cX11_spill 38 = .ok (.iload 5, 2) := by decide +kernel
theorem dX11_spill_40 : decode cX11_spill 40 = .ok (.invokevirtual 66, 3) := by decide +kernel
theorem dX11_spill_43 : decode cX11_spill 43 = .ok (.ireturn, 1) := by decide +kernel
def D_X11_spill_26 (N : Nat) (h : mh_H) (l0 : Nat) : Option (Int32 × mh_H) :=
  kO h 11 l0 <|
  (D_X11_error N h l0 (1 : Int32)).bind fun q1 =>
  some (q1.1, q1.2)
set_option maxHeartbeats 4000000 in
set_option maxRecDepth 100000 in
theorem T_X11_spill_26 {P : mh_E → Prop} {N d : Nat} (hd : 7 ≤ d) {z : (Int32 × mh_H)} {h : mh_H} {l0 : Nat} (hq : D_X11_spill_26 N h l0 = some z) : mh_go P d mX11_spill 26 [some (.ref l0), none, none, none, none, none, none, none] [] h (some (.int z.1)) z.2 := by
  unfold D_X11_spill_26 at hq
  refine st_aload_n (pc := 26) dX11_spill_26 rfl ?_
  refine st_iconst (pc := 27) (v := (1 : Int32)) dX11_spill_27 rfl ?_
  obtain ⟨⟨hbq1, hkq1⟩, hq⟩ := mh_oi hq
  obtain ⟨q1, e1, hq⟩ := mh_ob hq
  refine st_invV (pc := 28) (ci := 11) (vs := [.int (1 : Int32)]) (rest := []) (st2 := [.int q1.1]) dX11_spill_28 okX11_error (by decide) hkq1 hbq1 wd_326 wd_328 wp_0 pdX11_error rfl rfl rfl rfl (Nat.le_trans (by decide) hd) (Nat.le_of_ble_eq_true rfl) (T_X11_error (Nat.le_refl _) e1) rfl ?_
  exact bd_iret (pc := 31) hq dX11_spill_31 rfl
def D_X11_spill_66 (N : Nat) : Nat → mh_H → Nat → Int32 → Int32 → Int32 → Int32 → Option (Int32 × mh_H)
  | 0, _, _, _, _, _, _ => none
  | F + 1, h, l0, l3, l4, l6, l7 =>
    if l4 ≤ l7 then (some (l6, h))
    else ((gR h 11 l0 2).bind fun v1 =>
    (gR h 11 l0 0).bind fun v2 =>
    (gR h 11 l0 3).bind fun v3 =>
    kO h 8 v1 <|
    (D_X8_passHour N h v1 v2 v3).bind fun q4 =>
    (gR q4 11 l0 2).bind fun v5 =>
    kO q4 8 v5 <|
    (D_X8_cameOut N q4 v5 l3 (3 : Int32) (1 : Int32)).bind fun q6 =>
    (D_X11_spill_66 N F) q6.2 l0 l3 l4 (l6 + q6.1) (l7 + Int32.ofInt (1)))
set_option maxHeartbeats 4000000 in
set_option maxRecDepth 100000 in
theorem T_X11_spill_66 {P : mh_E → Prop} {N d : Nat} (hd : 7 ≤ d) {z : (Int32 × mh_H)} : ∀ (F : Nat) (h : mh_H) (l0 : Nat) (l3 : Int32) (l4 : Int32) (l6 : Int32) (l7 : Int32), D_X11_spill_66 N F h l0 l3 l4 l6 l7 = some z → mh_go P d mX11_spill 66 [some (.ref l0), none, none, some (.int l3), some (.int l4), none, some (.int l6), some (.int l7)] [] h (some (.int z.1)) z.2 := by
  intro F
  induction F with
  | zero => intro h l0 l3 l4 l6 l7 hq; rw [D_X11_spill_66] at hq; cases hq
  | succ F ih =>
    intro h l0 l3 l4 l6 l7 hq
    rw [D_X11_spill_66] at hq
    refine st_iload (pc := 66) dX11_spill_66 rfl ?_
    refine st_iload (pc := 68) dX11_spill_68 rfl ?_
    refine bd_icmp_ge (pc := 70) (tgt := 109) hq dX11_spill_70 (by decide) (fun _ hq => ?_) (fun _ hq => ?_)
    ·
      refine st_iload (pc := 109) dX11_spill_109 rfl ?_
      exact bd_iret (pc := 111) hq dX11_spill_111 rfl
    ·
      refine st_aload_n (pc := 73) dX11_spill_73 rfl ?_
      refine bd_getr (pc := 74) hq dX11_spill_74 fl_11_22_11 rfl (fun v1 hq => ?_)
      refine st_aload_n (pc := 77) dX11_spill_77 rfl ?_
      refine bd_getr (pc := 78) hq dX11_spill_78 fl_11_12_11 rfl (fun v2 hq => ?_)
      refine st_aload_n (pc := 81) dX11_spill_81 rfl ?_
      refine bd_getr (pc := 82) hq dX11_spill_82 fl_11_29_11 rfl (fun v3 hq => ?_)
      obtain ⟨⟨hbq4, hkq4⟩, hq⟩ := mh_oi hq
      obtain ⟨q4, e4, hq⟩ := mh_ob hq
      refine st_invV (pc := 85) (ci := 8) (vs := [.ref v2, .ref v3]) (rest := []) (st2 := []) dX11_spill_85 okX8_passHour (by decide) hkq4 hbq4 wd_513 wd_514 wd_515 pdX8_passHour rfl rfl rfl rfl (Nat.le_trans (by decide) hd) (Nat.le_of_ble_eq_true rfl) (T_X8_passHour (Nat.le_refl _) e4) rfl ?_
      refine st_iload (pc := 88) dX11_spill_88 rfl ?_
      refine st_aload_n (pc := 90) dX11_spill_90 rfl ?_
      refine bd_getr (pc := 91) hq dX11_spill_91 fl_11_22_11 rfl (fun v5 hq => ?_)
      refine st_iload_n (pc := 94) dX11_spill_94 rfl ?_
      refine st_iconst (pc := 95) (v := (3 : Int32)) dX11_spill_95 rfl ?_
      refine st_iconst (pc := 96) (v := (1 : Int32)) dX11_spill_96 rfl ?_
      obtain ⟨⟨hbq6, hkq6⟩, hq⟩ := mh_oi hq
      obtain ⟨q6, e6, hq⟩ := mh_ob hq
      refine st_invV (pc := 97) (ci := 8) (vs := [.int l3, .int (3 : Int32), .int (1 : Int32)]) (rest := [.int l6]) (st2 := [.int q6.1, .int l6]) dX11_spill_97 okX8_cameOut (by decide) hkq6 hbq6 wd_656 wd_657 wd_658 pdX8_cameOut rfl rfl rfl rfl (Nat.le_trans (by decide) hd) (Nat.le_of_ble_eq_true rfl) (T_X8_cameOut (Nat.le_refl _) e6) rfl ?_
      refine st_iadd (pc := 100) dX11_spill_100 ?_
      refine st_istore (pc := 101) (lv' := [some (.ref l0), none, none, some (.int l3), some (.int l4), none, some (.int (l6 + q6.1)), some (.int l7)]) dX11_spill_101 rfl (by decide) rfl ?_
      refine st_iinc (pc := 103) (lv' := [some (.ref l0), none, none, some (.int l3), some (.int l4), none, some (.int (l6 + q6.1)), some (.int (l7 + Int32.ofInt (1)))]) dX11_spill_103 rfl rfl (by decide) rfl ?_
      refine st_goto (pc := 106) (tgt := 66) dX11_spill_106 (by decide) ?_
      exact ih _ _ _ _ _ _ hq
def D_X11_spill (N : Nat) (h : mh_H) (l0 : Nat) (l1 : Int32) (l2 : Int32) (l3 : Int32) (l4 : Int32) : Option (Int32 × mh_H) :=
  kO h 11 l0 <|
  (D_X11_spillError N h l0 l1 l2 l3).bind fun q1 =>
  if q1.1 = (1 : Int32) then (D_X11_spill_26 N q1.2 l0)
  else ((D_X11_within N q1.2 l4 (1 : Int32) (60 : Int32)).bind fun q2 =>
  if q2.1 = 0 then (D_X11_spill_26 N q2.2 l0)
  else (if q1.1 = 0 then ((gR q2.2 11 l0 2).bind fun v3 =>
  (gR q2.2 11 l0 0).bind fun v4 =>
  (gR q2.2 10 v4 7).bind fun v5 =>
  kO q2.2 8 v3 <|
  (D_X8_startSpill N q2.2 v3 v5 l1 l2).bind fun q6 =>
  D_X11_spill_66 N N q6 l0 l3 l4 (0 : Int32) (0 : Int32))
  else (kO q2.2 11 l0 <|
  (D_X11_error N q2.2 l0 q1.1).bind fun q3 =>
  some (q3.1, q3.2))))
set_option maxHeartbeats 4000000 in
set_option maxRecDepth 100000 in
theorem T_X11_spill {P : mh_E → Prop} {N d : Nat} (hd : 7 ≤ d) {z : (Int32 × mh_H)} {h : mh_H} {l0 : Nat} {l1 : Int32} {l2 : Int32} {l3 : Int32} {l4 : Int32} (hq : D_X11_spill N h l0 l1 l2 l3 l4 = some z) : mh_go P d mX11_spill 0 [some (.ref l0), some (.int l1), some (.int l2), some (.int l3), some (.int l4), none, none, none] [] h (some (.int z.1)) z.2 := by
  unfold D_X11_spill at hq
  refine st_aload_n (pc := 0) dX11_spill_0 rfl ?_
  refine st_iload_n (pc := 1) dX11_spill_1 rfl ?_
  refine st_iload_n (pc := 2) dX11_spill_2 rfl ?_
  refine st_iload_n (pc := 3) dX11_spill_3 rfl ?_
  obtain ⟨⟨hbq1, hkq1⟩, hq⟩ := mh_oi hq
  obtain ⟨q1, e1, hq⟩ := mh_ob hq
  refine st_invV (pc := 4) (ci := 11) (vs := [.int l1, .int l2, .int l3]) (rest := []) (st2 := [.int q1.1]) dX11_spill_4 okX11_spillError (by decide) hkq1 hbq1 wd_664 wd_666 wp_13 pdX11_spillError rfl rfl rfl rfl (Nat.le_trans (by decide) hd) (Nat.le_of_ble_eq_true rfl) (T_X11_spillError (Nat.le_refl _) e1) rfl ?_
  refine st_istore (pc := 7) (lv' := [some (.ref l0), some (.int l1), some (.int l2), some (.int l3), some (.int l4), some (.int q1.1), none, none]) dX11_spill_7 rfl (by decide) rfl ?_
  refine st_iload (pc := 9) dX11_spill_9 rfl ?_
  refine st_iconst (pc := 11) (v := (1 : Int32)) dX11_spill_11 rfl ?_
  refine bd_icmp_eq (pc := 12) (tgt := 26) hq dX11_spill_12 (by decide) (fun _ hq => ?_) (fun _ hq => ?_)
  ·
    refine st_lesS (lv' := [some (.ref l0), none, none, none, none, none, none, none]) ⟨Or.inr rfl, Or.inl rfl, Or.inl rfl, Or.inl rfl, Or.inl rfl, Or.inl rfl, Or.inr rfl, Or.inr rfl, trivial⟩ ?_
    exact T_X11_spill_26 hd hq
  ·
    refine st_iload (pc := 15) dX11_spill_15 rfl ?_
    refine st_iconst (pc := 17) (v := (1 : Int32)) dX11_spill_17 rfl ?_
    refine st_bipush (pc := 18) (v := (60 : Int32)) dX11_spill_18 (by decide) ?_
    obtain ⟨q2, e2, hq⟩ := mh_ob hq
    refine st_invS (pc := 20) (Y := mX11_within) (vs := [.int l4, .int (1 : Int32), .int (60 : Int32)]) (rest := []) (st2 := [.int q2.1]) dX11_spill_20 okX11_within wd_323 wd_324 pdX11_within rfl rfl rfl rfl (Nat.le_trans (by decide) hd) (Nat.le_of_ble_eq_true rfl) (T_X11_within (Nat.le_refl _) e2) rfl ?_
    refine bd_if_ne (pc := 23) (tgt := 32) hq dX11_spill_23 (by decide) (fun _ hq => ?_) (fun _ hq => ?_)
    ·
      refine st_lesS (lv' := [some (.ref l0), none, none, none, none, none, none, none]) ⟨Or.inr rfl, Or.inl rfl, Or.inl rfl, Or.inl rfl, Or.inl rfl, Or.inl rfl, Or.inr rfl, Or.inr rfl, trivial⟩ ?_
      exact T_X11_spill_26 hd hq
    ·
      refine st_iload (pc := 32) dX11_spill_32 rfl ?_
      refine bd_if_eq (pc := 34) (tgt := 44) hq dX11_spill_34 (by decide) (fun _ hq => ?_) (fun _ hq => ?_)
      ·
        refine st_aload_n (pc := 44) dX11_spill_44 rfl ?_
        refine bd_getr (pc := 45) hq dX11_spill_45 fl_11_22_11 rfl (fun v3 hq => ?_)
        refine st_aload_n (pc := 48) dX11_spill_48 rfl ?_
        refine bd_getr (pc := 49) hq dX11_spill_49 fl_11_12_11 rfl (fun v4 hq => ?_)
        refine bd_getr (pc := 52) hq dX11_spill_52 fl_11_90_10 rfl (fun v5 hq => ?_)
        refine st_iload_n (pc := 55) dX11_spill_55 rfl ?_
        refine st_iload_n (pc := 56) dX11_spill_56 rfl ?_
        obtain ⟨⟨hbq6, hkq6⟩, hq⟩ := mh_oi hq
        obtain ⟨q6, e6, hq⟩ := mh_ob hq
        refine st_invV (pc := 57) (ci := 8) (vs := [.ref v5, .int l1, .int l2]) (rest := []) (st2 := []) dX11_spill_57 okX8_startSpill (by decide) hkq6 hbq6 wd_668 wd_669 wd_670 pdX8_startSpill rfl rfl rfl rfl (Nat.le_trans (by decide) hd) (Nat.le_of_ble_eq_true rfl) (T_X8_startSpill (Nat.le_refl _) e6) rfl ?_
        refine st_iconst (pc := 60) (v := (0 : Int32)) dX11_spill_60 rfl ?_
        refine st_istore (pc := 61) (lv' := [some (.ref l0), some (.int l1), some (.int l2), some (.int l3), some (.int l4), some (.int q1.1), some (.int (0 : Int32)), none]) dX11_spill_61 rfl (by decide) rfl ?_
        refine st_iconst (pc := 63) (v := (0 : Int32)) dX11_spill_63 rfl ?_
        refine st_istore (pc := 64) (lv' := [some (.ref l0), some (.int l1), some (.int l2), some (.int l3), some (.int l4), some (.int q1.1), some (.int (0 : Int32)), some (.int (0 : Int32))]) dX11_spill_64 rfl (by decide) rfl ?_
        refine st_lesS (lv' := [some (.ref l0), none, none, some (.int l3), some (.int l4), none, some (.int (0 : Int32)), some (.int (0 : Int32))]) ⟨Or.inr rfl, Or.inl rfl, Or.inl rfl, Or.inr rfl, Or.inr rfl, Or.inl rfl, Or.inr rfl, Or.inr rfl, trivial⟩ ?_
        exact T_X11_spill_66 hd N _ _ _ _ _ _ hq
      ·
        refine st_aload_n (pc := 37) dX11_spill_37 rfl ?_
        refine st_iload (pc := 38) dX11_spill_38 rfl ?_
        obtain ⟨⟨hbq3, hkq3⟩, hq⟩ := mh_oi hq
        obtain ⟨q3, e3, hq⟩ := mh_ob hq
        refine st_invV (pc := 40) (ci := 11) (vs := [.int q1.1]) (rest := []) (st2 := [.int q3.1]) dX11_spill_40 okX11_error (by decide) hkq3 hbq3 wd_326 wd_328 wp_0 pdX11_error rfl rfl rfl rfl (Nat.le_trans (by decide) hd) (Nat.le_of_ble_eq_true rfl) (T_X11_error (Nat.le_refl _) e3) rfl ?_
        exact bd_iret (pc := 43) hq dX11_spill_43 rfl
-- HoleWater.first(III)I
theorem dX11_first_40 : decode cX11_first 40 = .ok (.iload 5, 2) := by decide +kernel
theorem dX11_first_42 : decode cX11_first 42 = .ok (.bipush 60, 2) := by decide +kernel
theorem dX11_first_44 : decode cX11_first 44 = .ok (.if_icmp .gt 40, 3) := by decide +kernel
theorem dX11_first_84 : decode cX11_first 84 = .ok (.aload_n 0, 1) := by decide +kernel
theorem dX11_first_85 : decode cX11_first 85 = .ok (.iconst 2, 1) := by decide +kernel
theorem dX11_first_86 : decode cX11_first 86 = .ok (.invokevirtual 66, 3) := by decide +kernel
theorem dX11_first_89 : decode cX11_first 89 = .ok (.ireturn, 1) := by decide +kernel
theorem dX11_first_47 : decode cX11_first 47 = .ok (.aload_n 0, 1) := by decide +kernel
theorem dX11_first_48 : decode cX11_first 48 = .ok (.getfield 22, 3) := by decide +kernel
theorem dX11_first_51 : decode cX11_first 51 = .ok (.aload_n 0, 1) := by decide +kernel
theorem dX11_first_52 : decode cX11_first 52 = .ok (.getfield 12, 3) := by decide +kernel
theorem dX11_first_55 : decode cX11_first 55 = .ok (.aload_n 0, 1) := by decide +kernel
theorem dX11_first_56 : decode cX11_first 56 = .ok (.getfield 29, 3) := by decide +kernel
theorem dX11_first_59 : decode cX11_first 59 = .ok (.invokevirtual 192, 3) := by decide +kernel
theorem dX11_first_62 : decode cX11_first 62 = .ok (.aload_n 0, 1) := by decide +kernel
theorem dX11_first_63 : decode cX11_first 63 = .ok (.getfield 22, 3) := by decide +kernel
theorem dX11_first_66 : decode cX11_first 66 = .ok (.iload_n 3, 1) := by decide +kernel
theorem dX11_first_67 : decode cX11_first 67 = .ok (.iconst 3, 1) := by decide +kernel
theorem dX11_first_68 : decode cX11_first 68 = .ok (.iconst 1, 1) := by decide +kernel
theorem dX11_first_69 : decode cX11_first 69 = .ok (.invokevirtual 220, 3) := by decide +kernel
theorem dX11_first_72 : decode cX11_first 72 = .ok (.ifCond .le 6, 3) := by decide +kernel
theorem dX11_first_78 : decode cX11_first 78 = .ok (.iinc 5 1, 3) := by decide +kernel
theorem dX11_first_81 : decode cX11_first 81 = .ok (.goto (-41), 3) := by decide +kernel
theorem dX11_first_75 : decode cX11_first 75 = .ok (.iload 5, 2) := by decide +kernel
theorem dX11_first_77 : decode cX11_first 77 = .ok (.ireturn, 1) := by decide +kernel
theorem dX11_first_0 : decode cX11_first 0 = .ok (.aload_n 0, 1) := by decide +kernel
theorem dX11_first_1 : decode cX11_first 1 = .ok (.iload_n 1, 1) := by decide +kernel
theorem dX11_first_2 : decode cX11_first 2 = .ok (.iload_n 2, 1) := by decide +kernel
theorem dX11_first_3 : decode cX11_first 3 = .ok (.iload_n 3, 1) := by decide +kernel
theorem dX11_first_4 : decode cX11_first 4 = .ok (.invokevirtual 223, 3) := by decide +kernel
theorem dX11_first_7 : decode cX11_first 7 = .ok (.istore 4, 2) := by decide +kernel
theorem dX11_first_9 : decode cX11_first 9 = .ok (.iload 4, 2) := by decide +kernel
theorem dX11_first_11 : decode cX11_first 11 = .ok (.ifCond .eq 10, 3) := by decide +kernel
theorem dX11_first_21 : decode cX11_first 21 = .ok (.aload_n 0, 1) := by decide +kernel
theorem dX11_first_22 : decode cX11_first 22 = .ok (.getfield 22, 3) := by decide +kernel
theorem dX11_first_25 : decode cX11_first 25 = .ok (.aload_n 0, 1) := by decide +kernel
theorem dX11_first_26 : decode cX11_first 26 = .ok (.getfield 12, 3) := by decide +kernel
theorem dX11_first_29 : decode cX11_first 29 = .ok (.getfield 90, 3) := by decide +kernel
theorem dX11_first_32 : decode cX11_first 32 = .ok (.iload_n 1, 1) := by decide +kernel
theorem dX11_first_33 : decode cX11_first 33 = .ok (.iload_n 2, 1) := by decide +kernel
theorem dX11_first_34 : decode cX11_first 34 = .ok (.invokevirtual 226, 3) := by decide +kernel
theorem dX11_first_37 : decode cX11_first 37 = .ok (.iconst 1, 1) := by decide +kernel
theorem dX11_first_38 : decode cX11_first 38 = .ok (.istore 5, 2) := by decide +kernel
theorem dX11_first_14 : decode cX11_first 14 = .ok (.aload_n 0, 1) := by decide +kernel
theorem dX11_first_15 : decode cX11_first 15 = .ok (.iload 4, 2) := by decide +kernel
theorem dX11_first_17 : decode cX11_first 17 = .ok (.invokevirtual 66, 3) := by decide +kernel
theorem dX11_first_20 : decode cX11_first 20 = .ok (.ireturn, 1) := by decide +kernel
def D_X11_first_40 (N : Nat) : Nat → mh_H → Nat → Int32 → Int32 → Option (Int32 × mh_H)
  | 0, _, _, _, _ => none
  | F + 1, h, l0, l3, l5 =>
    if (60 : Int32) < l5 then (kO h 11 l0 <|
    (D_X11_error N h l0 (2 : Int32)).bind fun q1 =>
    some (q1.1, q1.2))
    else ((gR h 11 l0 2).bind fun v1 =>
    (gR h 11 l0 0).bind fun v2 =>
    (gR h 11 l0 3).bind fun v3 =>
    kO h 8 v1 <|
    (D_X8_passHour N h v1 v2 v3).bind fun q4 =>
    (gR q4 11 l0 2).bind fun v5 =>
    kO q4 8 v5 <|
    (D_X8_cameOut N q4 v5 l3 (3 : Int32) (1 : Int32)).bind fun q6 =>
    if q6.1 ≤ 0 then ((D_X11_first_40 N F) q6.2 l0 l3 (l5 + Int32.ofInt (1)))
    else (some (l5, q6.2)))
set_option maxHeartbeats 4000000 in
set_option maxRecDepth 100000 in
theorem T_X11_first_40 {P : mh_E → Prop} {N d : Nat} (hd : 7 ≤ d) {z : (Int32 × mh_H)} : ∀ (F : Nat) (h : mh_H) (l0 : Nat) (l3 : Int32) (l5 : Int32), D_X11_first_40 N F h l0 l3 l5 = some z → mh_go P d mX11_first 40 [some (.ref l0), none, none, some (.int l3), none, some (.int l5)] [] h (some (.int z.1)) z.2 := by
  intro F
  induction F with
  | zero => intro h l0 l3 l5 hq; rw [D_X11_first_40] at hq; cases hq
  | succ F ih =>
    intro h l0 l3 l5 hq
    rw [D_X11_first_40] at hq
    refine st_iload (pc := 40) dX11_first_40 rfl ?_
    refine st_bipush (pc := 42) (v := (60 : Int32)) dX11_first_42 (by decide) ?_
    refine bd_icmp_gt (pc := 44) (tgt := 84) hq dX11_first_44 (by decide) (fun _ hq => ?_) (fun _ hq => ?_)
    ·
      refine st_aload_n (pc := 84) dX11_first_84 rfl ?_
      refine st_iconst (pc := 85) (v := (2 : Int32)) dX11_first_85 rfl ?_
      obtain ⟨⟨hbq1, hkq1⟩, hq⟩ := mh_oi hq
      obtain ⟨q1, e1, hq⟩ := mh_ob hq
      refine st_invV (pc := 86) (ci := 11) (vs := [.int (2 : Int32)]) (rest := []) (st2 := [.int q1.1]) dX11_first_86 okX11_error (by decide) hkq1 hbq1 wd_326 wd_328 wp_0 pdX11_error rfl rfl rfl rfl (Nat.le_trans (by decide) hd) (Nat.le_of_ble_eq_true rfl) (T_X11_error (Nat.le_refl _) e1) rfl ?_
      exact bd_iret (pc := 89) hq dX11_first_89 rfl
    ·
      refine st_aload_n (pc := 47) dX11_first_47 rfl ?_
      refine bd_getr (pc := 48) hq dX11_first_48 fl_11_22_11 rfl (fun v1 hq => ?_)
      refine st_aload_n (pc := 51) dX11_first_51 rfl ?_
      refine bd_getr (pc := 52) hq dX11_first_52 fl_11_12_11 rfl (fun v2 hq => ?_)
      refine st_aload_n (pc := 55) dX11_first_55 rfl ?_
      refine bd_getr (pc := 56) hq dX11_first_56 fl_11_29_11 rfl (fun v3 hq => ?_)
      obtain ⟨⟨hbq4, hkq4⟩, hq⟩ := mh_oi hq
      obtain ⟨q4, e4, hq⟩ := mh_ob hq
      refine st_invV (pc := 59) (ci := 8) (vs := [.ref v2, .ref v3]) (rest := []) (st2 := []) dX11_first_59 okX8_passHour (by decide) hkq4 hbq4 wd_513 wd_514 wd_515 pdX8_passHour rfl rfl rfl rfl (Nat.le_trans (by decide) hd) (Nat.le_of_ble_eq_true rfl) (T_X8_passHour (Nat.le_refl _) e4) rfl ?_
      refine st_aload_n (pc := 62) dX11_first_62 rfl ?_
      refine bd_getr (pc := 63) hq dX11_first_63 fl_11_22_11 rfl (fun v5 hq => ?_)
      refine st_iload_n (pc := 66) dX11_first_66 rfl ?_
      refine st_iconst (pc := 67) (v := (3 : Int32)) dX11_first_67 rfl ?_
      refine st_iconst (pc := 68) (v := (1 : Int32)) dX11_first_68 rfl ?_
      obtain ⟨⟨hbq6, hkq6⟩, hq⟩ := mh_oi hq
      obtain ⟨q6, e6, hq⟩ := mh_ob hq
      refine st_invV (pc := 69) (ci := 8) (vs := [.int l3, .int (3 : Int32), .int (1 : Int32)]) (rest := []) (st2 := [.int q6.1]) dX11_first_69 okX8_cameOut (by decide) hkq6 hbq6 wd_656 wd_657 wd_658 pdX8_cameOut rfl rfl rfl rfl (Nat.le_trans (by decide) hd) (Nat.le_of_ble_eq_true rfl) (T_X8_cameOut (Nat.le_refl _) e6) rfl ?_
      refine bd_if_le (pc := 72) (tgt := 78) hq dX11_first_72 (by decide) (fun _ hq => ?_) (fun _ hq => ?_)
      ·
        refine st_iinc (pc := 78) (lv' := [some (.ref l0), none, none, some (.int l3), none, some (.int (l5 + Int32.ofInt (1)))]) dX11_first_78 rfl rfl (by decide) rfl ?_
        refine st_goto (pc := 81) (tgt := 40) dX11_first_81 (by decide) ?_
        exact ih _ _ _ _ hq
      ·
        refine st_iload (pc := 75) dX11_first_75 rfl ?_
        exact bd_iret (pc := 77) hq dX11_first_77 rfl
def D_X11_first (N : Nat) (h : mh_H) (l0 : Nat) (l1 : Int32) (l2 : Int32) (l3 : Int32) : Option (Int32 × mh_H) :=
  kO h 11 l0 <|
  (D_X11_spillError N h l0 l1 l2 l3).bind fun q1 =>
  if q1.1 = 0 then ((gR q1.2 11 l0 2).bind fun v2 =>
  (gR q1.2 11 l0 0).bind fun v3 =>
  (gR q1.2 10 v3 7).bind fun v4 =>
  kO q1.2 8 v2 <|
  (D_X8_startSpill N q1.2 v2 v4 l1 l2).bind fun q5 =>
  D_X11_first_40 N N q5 l0 l3 (1 : Int32))
  else (kO q1.2 11 l0 <|
  (D_X11_error N q1.2 l0 q1.1).bind fun q2 =>
  some (q2.1, q2.2))
set_option maxHeartbeats 4000000 in
set_option maxRecDepth 100000 in
theorem T_X11_first {P : mh_E → Prop} {N d : Nat} (hd : 7 ≤ d) {z : (Int32 × mh_H)} {h : mh_H} {l0 : Nat} {l1 : Int32} {l2 : Int32} {l3 : Int32} (hq : D_X11_first N h l0 l1 l2 l3 = some z) : mh_go P d mX11_first 0 [some (.ref l0), some (.int l1), some (.int l2), some (.int l3), none, none] [] h (some (.int z.1)) z.2 := by
  unfold D_X11_first at hq
  refine st_aload_n (pc := 0) dX11_first_0 rfl ?_
  refine st_iload_n (pc := 1) dX11_first_1 rfl ?_
  refine st_iload_n (pc := 2) dX11_first_2 rfl ?_
  refine st_iload_n (pc := 3) dX11_first_3 rfl ?_
  obtain ⟨⟨hbq1, hkq1⟩, hq⟩ := mh_oi hq
  obtain ⟨q1, e1, hq⟩ := mh_ob hq
  refine st_invV (pc := 4) (ci := 11) (vs := [.int l1, .int l2, .int l3]) (rest := []) (st2 := [.int q1.1]) dX11_first_4 okX11_spillError (by decide) hkq1 hbq1 wd_664 wd_666 wp_13 pdX11_spillError rfl rfl rfl rfl (Nat.le_trans (by decide) hd) (Nat.le_of_ble_eq_true rfl) (T_X11_spillError (Nat.le_refl _) e1) rfl ?_
  refine st_istore (pc := 7) (lv' := [some (.ref l0), some (.int l1), some (.int l2), some (.int l3), some (.int q1.1), none]) dX11_first_7 rfl (by decide) rfl ?_
  refine st_iload (pc := 9) dX11_first_9 rfl ?_
  refine bd_if_eq (pc := 11) (tgt := 21) hq dX11_first_11 (by decide) (fun _ hq => ?_) (fun _ hq => ?_)
  ·
    refine st_aload_n (pc := 21) dX11_first_21 rfl ?_
    refine bd_getr (pc := 22) hq dX11_first_22 fl_11_22_11 rfl (fun v2 hq => ?_)
    refine st_aload_n (pc := 25) dX11_first_25 rfl ?_
    refine bd_getr (pc := 26) hq dX11_first_26 fl_11_12_11 rfl (fun v3 hq => ?_)
    refine bd_getr (pc := 29) hq dX11_first_29 fl_11_90_10 rfl (fun v4 hq => ?_)
    refine st_iload_n (pc := 32) dX11_first_32 rfl ?_
    refine st_iload_n (pc := 33) dX11_first_33 rfl ?_
    obtain ⟨⟨hbq5, hkq5⟩, hq⟩ := mh_oi hq
    obtain ⟨q5, e5, hq⟩ := mh_ob hq
    refine st_invV (pc := 34) (ci := 8) (vs := [.ref v4, .int l1, .int l2]) (rest := []) (st2 := []) dX11_first_34 okX8_startSpill (by decide) hkq5 hbq5 wd_668 wd_669 wd_670 pdX8_startSpill rfl rfl rfl rfl (Nat.le_trans (by decide) hd) (Nat.le_of_ble_eq_true rfl) (T_X8_startSpill (Nat.le_refl _) e5) rfl ?_
    refine st_iconst (pc := 37) (v := (1 : Int32)) dX11_first_37 rfl ?_
    refine st_istore (pc := 38) (lv' := [some (.ref l0), some (.int l1), some (.int l2), some (.int l3), some (.int q1.1), some (.int (1 : Int32))]) dX11_first_38 rfl (by decide) rfl ?_
    refine st_lesS (lv' := [some (.ref l0), none, none, some (.int l3), none, some (.int (1 : Int32))]) ⟨Or.inr rfl, Or.inl rfl, Or.inl rfl, Or.inr rfl, Or.inl rfl, Or.inr rfl, trivial⟩ ?_
    exact T_X11_first_40 hd N _ _ _ _ hq
  ·
    refine st_aload_n (pc := 14) dX11_first_14 rfl ?_
    refine st_iload (pc := 15) dX11_first_15 rfl ?_
    obtain ⟨⟨hbq2, hkq2⟩, hq⟩ := mh_oi hq
    obtain ⟨q2, e2, hq⟩ := mh_ob hq
    refine st_invV (pc := 17) (ci := 11) (vs := [.int q1.1]) (rest := []) (st2 := [.int q2.1]) dX11_first_17 okX11_error (by decide) hkq2 hbq2 wd_326 wd_328 wp_0 pdX11_error rfl rfl rfl rfl (Nat.le_trans (by decide) hd) (Nat.le_of_ble_eq_true rfl) (T_X11_error (Nat.le_refl _) e2) rfl ?_
    exact bd_iret (pc := 20) hq dX11_first_20 rfl
-- HoleWater$Row.add(I)Z
theorem dX6_add_0 : decode cX6_add 0 = .ok (.aload_n 0, 1) := by decide +kernel
theorem dX6_add_1 : decode cX6_add 1 = .ok (.getfield 7, 3) := by decide +kernel
theorem dX6_add_4 : decode cX6_add 4 = .ok (.aload_n 0, 1) := by decide +kernel
theorem dX6_add_5 : decode cX6_add 5 = .ok (.getfield 19, 3) := by decide +kernel
theorem dX6_add_8 : decode cX6_add 8 = .ok (.arraylength, 1) := by decide +kernel
theorem dX6_add_9 : decode cX6_add 9 = .ok (.if_icmp .lt 5, 3) := by decide +kernel
theorem dX6_add_14 : decode cX6_add 14 = .ok (.aload_n 0, 1) := by decide +kernel
theorem dX6_add_15 : decode cX6_add 15 = .ok (.getfield 19, 3) := by decide +kernel
theorem dX6_add_18 : decode cX6_add 18 = .ok (.aload_n 0, 1) := by decide +kernel
theorem dX6_add_19 : decode cX6_add 19 = .ok (.getfield 7, 3) := by decide +kernel
theorem dX6_add_22 : decode cX6_add 22 = .ok (.iload_n 1, 1) := by decide +kernel
theorem dX6_add_23 : decode cX6_add 23 = .ok (.iastore, 1) := by decide +kernel
theorem dX6_add_24 : decode cX6_add 24 = .ok (.aload_n 0, 1) := by decide +kernel
theorem dX6_add_25 : decode cX6_add 25 = .ok (.dup, 1) := by decide +kernel
theorem dX6_add_26 : decode cX6_add 26 = .ok (.getfield 7, 3) := by decide +kernel
theorem dX6_add_29 : decode cX6_add 29 = .ok (.iconst 1, 1) := by decide +kernel
theorem dX6_add_30 : decode cX6_add 30 = .ok (.iadd, 1) := by decide +kernel
theorem dX6_add_31 : decode cX6_add 31 = .ok (.putfield 7, 3) := by decide +kernel
theorem dX6_add_34 : decode cX6_add 34 = .ok (.iconst 1, 1) := by decide +kernel
theorem dX6_add_35 : decode cX6_add 35 = .ok (.ireturn, 1) := by decide +kernel
theorem dX6_add_12 : decode cX6_add 12 = .ok (.iconst 0, 1) := by decide +kernel
theorem dX6_add_13 : decode cX6_add 13 = .ok (.ireturn, 1) := by decide +kernel
def D_X6_add (N : Nat) (h : mh_H) (l0 : Nat) (l1 : Int32) : Option (Int32 × mh_H) :=
  (gI h 6 l0 1).bind fun v1 =>
  (gR h 6 l0 0).bind fun v2 =>
  (aL h v2).bind fun v3 =>
  if v1 < v3 then ((gR h 6 l0 0).bind fun v4 =>
  (gI h 6 l0 1).bind fun v5 =>
  (uI h v4 v5 l1).bind fun h6 =>
  (gI h6 6 l0 1).bind fun v7 =>
  (pI h6 6 l0 1 (v7 + (1 : Int32))).bind fun h8 =>
  zB (1 : Int32) h8)
  else (zB (0 : Int32) h)
set_option maxHeartbeats 4000000 in
set_option maxRecDepth 100000 in
theorem T_X6_add {P : mh_E → Prop} {N d : Nat} (hd : 1 ≤ d) {z : (Int32 × mh_H)} {h : mh_H} {l0 : Nat} {l1 : Int32} (hq : D_X6_add N h l0 l1 = some z) : mh_go P d mX6_add 0 [some (.ref l0), some (.int l1)] [] h (some (.int z.1)) z.2 := by
  unfold D_X6_add at hq
  refine st_aload_n (pc := 0) dX6_add_0 rfl ?_
  refine bd_geti (pc := 1) hq dX6_add_1 fl_6_7_6 rfl (fun v1 hq => ?_)
  refine st_aload_n (pc := 4) dX6_add_4 rfl ?_
  refine bd_getr (pc := 5) hq dX6_add_5 fl_6_19_6 rfl (fun v2 hq => ?_)
  refine bd_alen (pc := 8) hq dX6_add_8 (fun v3 hq => ?_)
  refine bd_icmp_lt (pc := 9) (tgt := 14) hq dX6_add_9 (by decide) (fun _ hq => ?_) (fun _ hq => ?_)
  ·
    refine st_aload_n (pc := 14) dX6_add_14 rfl ?_
    refine bd_getr (pc := 15) hq dX6_add_15 fl_6_19_6 rfl (fun v4 hq => ?_)
    refine st_aload_n (pc := 18) dX6_add_18 rfl ?_
    refine bd_geti (pc := 19) hq dX6_add_19 fl_6_7_6 rfl (fun v5 hq => ?_)
    refine st_iload_n (pc := 22) dX6_add_22 rfl ?_
    refine bd_iast (pc := 23) hq dX6_add_23 (fun h6 hq => ?_)
    refine st_aload_n (pc := 24) dX6_add_24 rfl ?_
    refine st_dup (pc := 25) dX6_add_25 rfl ?_
    refine bd_geti (pc := 26) hq dX6_add_26 fl_6_7_6 rfl (fun v7 hq => ?_)
    refine st_iconst (pc := 29) (v := (1 : Int32)) dX6_add_29 rfl ?_
    refine st_iadd (pc := 30) dX6_add_30 ?_
    refine bd_puti (pc := 31) hq dX6_add_31 fl_6_7_6 (Or.inl rfl) rfl (fun h8 hq => ?_)
    refine st_iconst (pc := 34) (v := (1 : Int32)) dX6_add_34 rfl ?_
    exact bd_zret (pc := 35) hq dX6_add_35 rfl
  ·
    refine st_iconst (pc := 12) (v := (0 : Int32)) dX6_add_12 rfl ?_
    exact bd_zret (pc := 13) hq dX6_add_13 rfl
-- HoleWater.feed(JI)I
theorem dX11_feed_42 : decode cX11_feed 42 = .ok (.iload 4, 2) := by decide +kernel
theorem dX11_feed_44 : decode cX11_feed 44 = .ok (.iload_n 3, 1) := by decide +kernel
theorem dX11_feed_45 : decode cX11_feed 45 = .ok (.if_icmp .ge 32, 3) := by decide +kernel
theorem dX11_feed_77 : decode cX11_feed 77 = .ok (.aload_n 0, 1) := by decide +kernel
theorem dX11_feed_78 : decode cX11_feed 78 = .ok (.getfield 12, 3) := by decide +kernel
theorem dX11_feed_81 : decode cX11_feed 81 = .ok (.getfield 230, 3) := by decide +kernel
theorem dX11_feed_84 : decode cX11_feed 84 = .ok (.getfield 233, 3) := by decide +kernel
theorem dX11_feed_87 : decode cX11_feed 87 = .ok (.ireturn, 1) := by decide +kernel
theorem dX11_feed_48 : decode cX11_feed 48 = .ok (.aload_n 0, 1) := by decide +kernel
theorem dX11_feed_49 : decode cX11_feed 49 = .ok (.getfield 12, 3) := by decide +kernel
theorem dX11_feed_52 : decode cX11_feed 52 = .ok (.getfield 230, 3) := by decide +kernel
theorem dX11_feed_55 : decode cX11_feed 55 = .ok (.lload_n 1, 1) := by decide +kernel
theorem dX11_feed_56 : decode cX11_feed 56 = .ok (.bipush 8, 2) := by decide +kernel
theorem dX11_feed_58 : decode cX11_feed 58 = .ok (.iload 4, 2) := by decide +kernel
theorem dX11_feed_60 : decode cX11_feed 60 = .ok (.imul, 1) := by decide +kernel
theorem dX11_feed_61 : decode cX11_feed 61 = .ok (.lushr, 1) := by decide +kernel
theorem dX11_feed_62 : decode cX11_feed 62 = .ok (.l2i, 1) := by decide +kernel
theorem dX11_feed_63 : decode cX11_feed 63 = .ok (.sipush 255, 3) := by decide +kernel
theorem dX11_feed_66 : decode cX11_feed 66 = .ok (.iand, 1) := by decide +kernel
theorem dX11_feed_67 : decode cX11_feed 67 = .ok (.invokevirtual 236, 3) := by decide +kernel
theorem dX11_feed_70 : decode cX11_feed 70 = .ok (.pop, 1) := by decide +kernel
theorem dX11_feed_71 : decode cX11_feed 71 = .ok (.iinc 4 1, 3) := by decide +kernel
theorem dX11_feed_74 : decode cX11_feed 74 = .ok (.goto (-32), 3) := by decide +kernel
theorem dX11_feed_0 : decode cX11_feed 0 = .ok (.iload_n 3, 1) := by decide +kernel
theorem dX11_feed_1 : decode cX11_feed 1 = .ok (.iconst 1, 1) := by decide +kernel
theorem dX11_feed_2 : decode cX11_feed 2 = .ok (.bipush 8, 2) := by decide +kernel
theorem dX11_feed_4 : decode cX11_feed 4 = .ok (.invokestatic 62, 3) := by decide +kernel
theorem dX11_feed_7 : decode cX11_feed 7 = .ok (.ifCond .ne 9, 3) := by decide +kernel
theorem dX11_feed_10 : decode cX11_feed 10 = .ok (.aload_n 0, 1) := by decide +kernel
theorem dX11_feed_11 : decode cX11_feed 11 = .ok (.iconst 1, 1) := by decide +kernel
theorem dX11_feed_12 : decode cX11_feed 12 = .ok (.invokevirtual 66, 3) := by decide +kernel
theorem dX11_feed_15 : decode cX11_feed 15 = .ok (.ireturn, 1) := by decide +kernel
theorem dX11_feed_16 : decode cX11_feed 16 = .ok (.aload_n 0, 1) := by decide +kernel
theorem dX11_feed_17 : decode cX11_feed 17 = .ok (.getfield 12, 3) := by decide +kernel
theorem dX11_feed_20 : decode cX11_feed 20 = .ok (.getfield 230, 3) := by decide +kernel
theorem dX11_feed_23 : decode cX11_feed 23 = .ok (.getfield 233, 3) := by decide +kernel
theorem dX11_feed_26 : decode cX11_feed 26 = .ok (.iload_n 3, 1) := by decide +kernel
theorem dX11_feed_27 : decode cX11_feed 27 = .ok (.iadd, 1) := by decide +kernel
theorem dX11_feed_28 : decode cX11_feed 28 = .ok (.bipush 60, 2) := by decide +kernel
theorem dX11_feed_30 : decode cX11_feed 30 = .ok (.if_icmp .le 9, 3) := by decide +kernel
theorem dX11_feed_39 : decode cX11_feed 39 = .ok (.iconst 0, 1) := by decide +kernel
theorem dX11_feed_40 : decode cX11_feed 40 = .ok (.istore 4, 2) := by decide +kernel
theorem dX11_feed_33 : decode cX11_feed 33 = .ok (.aload_n 0, 1) := by decide +kernel
theorem dX11_feed_34 : decode cX11_feed 34 = .ok (.iconst 4, 1) := by decide +kernel
theorem dX11_feed_35 : decode cX11_feed 35 = .ok (.invokevirtual 66, 3) := by decide +kernel
theorem dX11_feed_38 : decode cX11_feed 38 = .ok (.ireturn, 1) := by decide +kernel
def D_X11_feed_42 (N : Nat) : Nat → mh_H → Nat → Int64 → Int32 → Int32 → Option (Int32 × mh_H)
  | 0, _, _, _, _, _ => none
  | F + 1, h, l0, l1, l3, l4 =>
    if l3 ≤ l4 then ((gR h 11 l0 0).bind fun v1 =>
    (gR h 10 v1 9).bind fun v2 =>
    (gI h 6 v2 1).bind fun v3 =>
    some (v3, h))
    else ((gR h 11 l0 0).bind fun v1 =>
    (gR h 10 v1 9).bind fun v2 =>
    kO h 6 v2 <|
    (D_X6_add N h v2 ((((l1.toUInt64 >>> (((8 : Int32) * l4).toInt64.toUInt64 &&& Int64.toUInt64 63)).toInt64).toInt32) &&& (255 : Int32))).bind fun q3 =>
    (D_X11_feed_42 N F) q3.2 l0 l1 l3 (l4 + Int32.ofInt (1)))
set_option maxHeartbeats 4000000 in
set_option maxRecDepth 100000 in
theorem T_X11_feed_42 {P : mh_E → Prop} {N d : Nat} (hd : 3 ≤ d) {z : (Int32 × mh_H)} : ∀ (F : Nat) (h : mh_H) (l0 : Nat) (l1 : Int64) (l3 : Int32) (l4 : Int32), D_X11_feed_42 N F h l0 l1 l3 l4 = some z → mh_go P d mX11_feed 42 [some (.ref l0), some (.long l1), none, some (.int l3), some (.int l4)] [] h (some (.int z.1)) z.2 := by
  intro F
  induction F with
  | zero => intro h l0 l1 l3 l4 hq; rw [D_X11_feed_42] at hq; cases hq
  | succ F ih =>
    intro h l0 l1 l3 l4 hq
    rw [D_X11_feed_42] at hq
    refine st_iload (pc := 42) dX11_feed_42 rfl ?_
    refine st_iload_n (pc := 44) dX11_feed_44 rfl ?_
    refine bd_icmp_ge (pc := 45) (tgt := 77) hq dX11_feed_45 (by decide) (fun _ hq => ?_) (fun _ hq => ?_)
    ·
      refine st_aload_n (pc := 77) dX11_feed_77 rfl ?_
      refine bd_getr (pc := 78) hq dX11_feed_78 fl_11_12_11 rfl (fun v1 hq => ?_)
      refine bd_getr (pc := 81) hq dX11_feed_81 fl_11_230_10 rfl (fun v2 hq => ?_)
      refine bd_geti (pc := 84) hq dX11_feed_84 fl_11_233_6 rfl (fun v3 hq => ?_)
      exact bd_iret (pc := 87) hq dX11_feed_87 rfl
    ·
      refine st_aload_n (pc := 48) dX11_feed_48 rfl ?_
      refine bd_getr (pc := 49) hq dX11_feed_49 fl_11_12_11 rfl (fun v1 hq => ?_)
      refine bd_getr (pc := 52) hq dX11_feed_52 fl_11_230_10 rfl (fun v2 hq => ?_)
      refine st_lload_n (pc := 55) dX11_feed_55 rfl ?_
      refine st_bipush (pc := 56) (v := (8 : Int32)) dX11_feed_56 (by decide) ?_
      refine st_iload (pc := 58) dX11_feed_58 rfl ?_
      refine st_imul (pc := 60) dX11_feed_60 ?_
      refine st_lushr (pc := 61) dX11_feed_61 ?_
      refine st_l2i (pc := 62) dX11_feed_62 ?_
      refine st_sipush (pc := 63) (v := (255 : Int32)) dX11_feed_63 (by decide) ?_
      refine st_iand (pc := 66) dX11_feed_66 ?_
      obtain ⟨⟨hbq3, hkq3⟩, hq⟩ := mh_oi hq
      obtain ⟨q3, e3, hq⟩ := mh_ob hq
      refine st_invV (pc := 67) (ci := 6) (vs := [.int ((((l1.toUInt64 >>> (((8 : Int32) * l4).toInt64.toUInt64 &&& Int64.toUInt64 63)).toInt64).toInt32) &&& (255 : Int32))]) (rest := []) (st2 := [.int q3.1]) dX11_feed_67 okX6_add (by decide) hkq3 hbq3 wd_687 wd_688 wd_689 pdX6_add rfl rfl rfl rfl (Nat.le_trans (by decide) hd) (Nat.le_of_ble_eq_true rfl) (T_X6_add (Nat.le_refl _) e3) rfl ?_
      refine st_pop (pc := 70) dX11_feed_70 rfl ?_
      refine st_iinc (pc := 71) (lv' := [some (.ref l0), some (.long l1), none, some (.int l3), some (.int (l4 + Int32.ofInt (1)))]) dX11_feed_71 rfl rfl (by decide) rfl ?_
      refine st_goto (pc := 74) (tgt := 42) dX11_feed_74 (by decide) ?_
      exact ih _ _ _ _ _ hq
def D_X11_feed (N : Nat) (h : mh_H) (l0 : Nat) (l1 : Int64) (l3 : Int32) : Option (Int32 × mh_H) :=
  (D_X11_within N h l3 (1 : Int32) (8 : Int32)).bind fun q1 =>
  if q1.1 = 0 then (kO q1.2 11 l0 <|
  (D_X11_error N q1.2 l0 (1 : Int32)).bind fun q2 =>
  some (q2.1, q2.2))
  else ((gR q1.2 11 l0 0).bind fun v2 =>
  (gR q1.2 10 v2 9).bind fun v3 =>
  (gI q1.2 6 v3 1).bind fun v4 =>
  if (v4 + l3) ≤ (60 : Int32) then (D_X11_feed_42 N N q1.2 l0 l1 l3 (0 : Int32))
  else (kO q1.2 11 l0 <|
  (D_X11_error N q1.2 l0 (4 : Int32)).bind fun q5 =>
  some (q5.1, q5.2)))
set_option maxHeartbeats 4000000 in
set_option maxRecDepth 100000 in
theorem T_X11_feed {P : mh_E → Prop} {N d : Nat} (hd : 3 ≤ d) {z : (Int32 × mh_H)} {h : mh_H} {l0 : Nat} {l1 : Int64} {l3 : Int32} (hq : D_X11_feed N h l0 l1 l3 = some z) : mh_go P d mX11_feed 0 [some (.ref l0), some (.long l1), none, some (.int l3), none] [] h (some (.int z.1)) z.2 := by
  unfold D_X11_feed at hq
  refine st_iload_n (pc := 0) dX11_feed_0 rfl ?_
  refine st_iconst (pc := 1) (v := (1 : Int32)) dX11_feed_1 rfl ?_
  refine st_bipush (pc := 2) (v := (8 : Int32)) dX11_feed_2 (by decide) ?_
  obtain ⟨q1, e1, hq⟩ := mh_ob hq
  refine st_invS (pc := 4) (Y := mX11_within) (vs := [.int l3, .int (1 : Int32), .int (8 : Int32)]) (rest := []) (st2 := [.int q1.1]) dX11_feed_4 okX11_within wd_323 wd_324 pdX11_within rfl rfl rfl rfl (Nat.le_trans (by decide) hd) (Nat.le_of_ble_eq_true rfl) (T_X11_within (Nat.le_refl _) e1) rfl ?_
  refine bd_if_ne (pc := 7) (tgt := 16) hq dX11_feed_7 (by decide) (fun _ hq => ?_) (fun _ hq => ?_)
  ·
    refine st_aload_n (pc := 10) dX11_feed_10 rfl ?_
    refine st_iconst (pc := 11) (v := (1 : Int32)) dX11_feed_11 rfl ?_
    obtain ⟨⟨hbq2, hkq2⟩, hq⟩ := mh_oi hq
    obtain ⟨q2, e2, hq⟩ := mh_ob hq
    refine st_invV (pc := 12) (ci := 11) (vs := [.int (1 : Int32)]) (rest := []) (st2 := [.int q2.1]) dX11_feed_12 okX11_error (by decide) hkq2 hbq2 wd_326 wd_328 wp_0 pdX11_error rfl rfl rfl rfl (Nat.le_trans (by decide) hd) (Nat.le_of_ble_eq_true rfl) (T_X11_error (Nat.le_refl _) e2) rfl ?_
    exact bd_iret (pc := 15) hq dX11_feed_15 rfl
  ·
    refine st_aload_n (pc := 16) dX11_feed_16 rfl ?_
    refine bd_getr (pc := 17) hq dX11_feed_17 fl_11_12_11 rfl (fun v2 hq => ?_)
    refine bd_getr (pc := 20) hq dX11_feed_20 fl_11_230_10 rfl (fun v3 hq => ?_)
    refine bd_geti (pc := 23) hq dX11_feed_23 fl_11_233_6 rfl (fun v4 hq => ?_)
    refine st_iload_n (pc := 26) dX11_feed_26 rfl ?_
    refine st_iadd (pc := 27) dX11_feed_27 ?_
    refine st_bipush (pc := 28) (v := (60 : Int32)) dX11_feed_28 (by decide) ?_
    refine bd_icmp_le (pc := 30) (tgt := 39) hq dX11_feed_30 (by decide) (fun _ hq => ?_) (fun _ hq => ?_)
    ·
      refine st_iconst (pc := 39) (v := (0 : Int32)) dX11_feed_39 rfl ?_
      refine st_istore (pc := 40) (lv' := [some (.ref l0), some (.long l1), none, some (.int l3), some (.int (0 : Int32))]) dX11_feed_40 rfl (by decide) rfl ?_
      exact T_X11_feed_42 hd N _ _ _ _ _ hq
    ·
      refine st_aload_n (pc := 33) dX11_feed_33 rfl ?_
      refine st_iconst (pc := 34) (v := (4 : Int32)) dX11_feed_34 rfl ?_
      obtain ⟨⟨hbq5, hkq5⟩, hq⟩ := mh_oi hq
      obtain ⟨q5, e5, hq⟩ := mh_ob hq
      refine st_invV (pc := 35) (ci := 11) (vs := [.int (4 : Int32)]) (rest := []) (st2 := [.int q5.1]) dX11_feed_35 okX11_error (by decide) hkq5 hbq5 wd_326 wd_328 wp_0 pdX11_error rfl rfl rfl rfl (Nat.le_trans (by decide) hd) (Nat.le_of_ble_eq_true rfl) (T_X11_error (Nat.le_refl _) e5) rfl ?_
      exact bd_iret (pc := 38) hq dX11_feed_38 rfl
-- HoleWater$Reader.begin(LHoleWater$Row;Ljava/lang/String;)V
theorem dX5_begin_0 : decode cX5_begin 0 = .ok (.aload_n 0, 1) := by decide +kernel
theorem dX5_begin_1 : decode cX5_begin 1 = .ok (.aload_n 1, 1) := by decide +kernel
theorem dX5_begin_2 : decode cX5_begin 2 = .ok (.getfield 67, 3) := by decide +kernel
theorem dX5_begin_5 : decode cX5_begin 5 = .ok (.putfield 31, 3) := by decide +kernel
theorem dX5_begin_8 : decode cX5_begin 8 = .ok (.aload_n 0, 1) := by decide +kernel
theorem dX5_begin_9 : decode cX5_begin 9 = .ok (.aload_n 1, 1) := by decide +kernel
theorem dX5_begin_10 : decode cX5_begin 10 = .ok (.getfield 70, 3) := by decide +kernel
theorem dX5_begin_13 : decode cX5_begin 13 = .ok (.aload_n 1, 1) := by decide +kernel
theorem dX5_begin_14 : decode cX5_begin 14 = .ok (.getfield 67, 3) := by decide +kernel
theorem dX5_begin_17 : decode cX5_begin 17 = .ok (.arraylength, 1) := by decide +kernel
theorem dX5_begin_18 : decode cX5_begin 18 = .ok (.invokestatic 71, 3) := by decide +kernel
theorem dX5_begin_21 : decode cX5_begin 21 = .ok (.putfield 34, 3) := by decide +kernel
theorem dX5_begin_24 : decode cX5_begin 24 = .ok (.aload_n 0, 1) := by decide +kernel
theorem dX5_begin_25 : decode cX5_begin 25 = .ok (.aload_n 2, 1) := by decide +kernel
theorem dX5_begin_26 : decode cX5_begin 26 = .ok (.putfield 39, 3) := by decide +kernel
theorem dX5_begin_29 : decode cX5_begin 29 = .ok (.aload_n 0, 1) := by decide +kernel
theorem dX5_begin_30 : decode cX5_begin 30 = .ok (.iconst 0, 1) := by decide +kernel
theorem dX5_begin_31 : decode cX5_begin 31 = .ok (.putfield 43, 3) := by decide +kernel
theorem dX5_begin_34 : decode cX5_begin 34 = .ok (.aload_n 0, 1) := by decide +kernel
theorem dX5_begin_35 : decode cX5_begin 35 = .ok (.iconst 0, 1) := by decide +kernel
theorem dX5_begin_36 : decode cX5_begin 36 = .ok (.putfield 46, 3) := by decide +kernel
theorem dX5_begin_39 : decode cX5_begin 39 = .ok (.aload_n 0, 1) := by decide +kernel
theorem dX5_begin_40 : decode cX5_begin 40 = .ok (.getfield 20, 3) := by decide +kernel
theorem dX5_begin_43 : decode cX5_begin 43 = .ok (.iconst 0, 1) := by decide +kernel
theorem dX5_begin_44 : decode cX5_begin 44 = .ok (.putfield 70, 3) := by decide +kernel
theorem dX5_begin_47 : decode cX5_begin 47 = .ok (.return_, 1) := by decide +kernel
def D_X5_begin (N : Nat) (h : mh_H) (l0 : Nat) (l1 : Nat) (l2 : Nat) : Option mh_H :=
  (gR h 6 l1 0).bind fun v1 =>
  (pR h 5 l0 4 v1).bind fun h2 =>
  (gI h2 6 l1 1).bind fun v3 =>
  (gR h2 6 l1 0).bind fun v4 =>
  (aL h2 v4).bind fun v5 =>
  (pI h2 5 l0 5 (mh_min v3 v5)).bind fun h6 =>
  (pR h6 5 l0 6 l2).bind fun h7 =>
  (pI h7 5 l0 7 (0 : Int32)).bind fun h8 =>
  (pB h8 5 l0 8 (0 : Int32)).bind fun h9 =>
  (gR h9 5 l0 1).bind fun v10 =>
  (pI h9 6 v10 1 (0 : Int32)).bind fun h11 =>
  some h11
set_option maxHeartbeats 4000000 in
set_option maxRecDepth 100000 in
theorem T_X5_begin {P : mh_E → Prop} {N d : Nat} (hd : 1 ≤ d) {z : mh_H} {h : mh_H} {l0 : Nat} {l1 : Nat} {l2 : Nat} (hq : D_X5_begin N h l0 l1 l2 = some z) : mh_go P d mX5_begin 0 [some (.ref l0), some (.ref l1), some (.ref l2)] [] h none z := by
  unfold D_X5_begin at hq
  refine st_aload_n (pc := 0) dX5_begin_0 rfl ?_
  refine st_aload_n (pc := 1) dX5_begin_1 rfl ?_
  refine bd_getr (pc := 2) hq dX5_begin_2 fl_5_67_6 rfl (fun v1 hq => ?_)
  refine bd_putr (pc := 5) hq dX5_begin_5 fl_5_31_5 (Or.inl rfl) rfl (Or.inr ⟨_, rfl⟩) (fun h2 hq => ?_)
  refine st_aload_n (pc := 8) dX5_begin_8 rfl ?_
  refine st_aload_n (pc := 9) dX5_begin_9 rfl ?_
  refine bd_geti (pc := 10) hq dX5_begin_10 fl_5_70_6 rfl (fun v3 hq => ?_)
  refine st_aload_n (pc := 13) dX5_begin_13 rfl ?_
  refine bd_getr (pc := 14) hq dX5_begin_14 fl_5_67_6 rfl (fun v4 hq => ?_)
  refine bd_alen (pc := 17) hq dX5_begin_17 (fun v5 hq => ?_)
  refine st_mmin (pc := 18) dX5_begin_18 wd_705 (Nat.le_trans (by decide) hd) (Nat.le_of_ble_eq_true rfl) ?_
  refine bd_puti (pc := 21) hq dX5_begin_21 fl_5_34_5 (Or.inl rfl) rfl (fun h6 hq => ?_)
  refine st_aload_n (pc := 24) dX5_begin_24 rfl ?_
  refine st_aload_n (pc := 25) dX5_begin_25 rfl ?_
  refine bd_putr (pc := 26) hq dX5_begin_26 fl_5_39_5 (Or.inl rfl) rfl (Or.inl ⟨_, rfl⟩) (fun h7 hq => ?_)
  refine st_aload_n (pc := 29) dX5_begin_29 rfl ?_
  refine st_iconst (pc := 30) (v := (0 : Int32)) dX5_begin_30 rfl ?_
  refine bd_puti (pc := 31) hq dX5_begin_31 fl_5_43_5 (Or.inl rfl) rfl (fun h8 hq => ?_)
  refine st_aload_n (pc := 34) dX5_begin_34 rfl ?_
  refine st_iconst (pc := 35) (v := (0 : Int32)) dX5_begin_35 rfl ?_
  refine bd_putb (pc := 36) hq dX5_begin_36 fl_5_46_5 (Or.inl rfl) rfl (fun h9 hq => ?_)
  refine st_aload_n (pc := 39) dX5_begin_39 rfl ?_
  refine bd_getr (pc := 40) hq dX5_begin_40 fl_5_20_5 rfl (fun v10 hq => ?_)
  refine st_iconst (pc := 43) (v := (0 : Int32)) dX5_begin_43 rfl ?_
  refine bd_puti (pc := 44) hq dX5_begin_44 fl_5_70_6 (Or.inl rfl) rfl (fun h11 hq => ?_)
  exact bd_vret (pc := 47) hq dX5_begin_47 rfl
-- HoleWater$Reader.next()I
theorem dX5_next_0 : decode cX5_next 0 = .ok (.aload_n 0, 1) := by decide +kernel
theorem dX5_next_1 : decode cX5_next 1 = .ok (.getfield 43, 3) := by decide +kernel
theorem dX5_next_4 : decode cX5_next 4 = .ok (.ifCond .lt 26, 3) := by decide +kernel
theorem dX5_next_30 : decode cX5_next 30 = .ok (.iconst (-1), 1) := by decide +kernel
theorem dX5_next_31 : decode cX5_next 31 = .ok (.ireturn, 1) := by decide +kernel
theorem dX5_next_7 : decode cX5_next 7 = .ok (.aload_n 0, 1) := by decide +kernel
theorem dX5_next_8 : decode cX5_next 8 = .ok (.getfield 43, 3) := by decide +kernel
theorem dX5_next_11 : decode cX5_next 11 = .ok (.aload_n 0, 1) := by decide +kernel
theorem dX5_next_12 : decode cX5_next 12 = .ok (.getfield 34, 3) := by decide +kernel
theorem dX5_next_15 : decode cX5_next 15 = .ok (.if_icmp .ge 15, 3) := by decide +kernel
theorem dX5_next_18 : decode cX5_next 18 = .ok (.aload_n 0, 1) := by decide +kernel
theorem dX5_next_19 : decode cX5_next 19 = .ok (.getfield 31, 3) := by decide +kernel
theorem dX5_next_22 : decode cX5_next 22 = .ok (.aload_n 0, 1) := by decide +kernel
theorem dX5_next_23 : decode cX5_next 23 = .ok (.getfield 43, 3) := by decide +kernel
theorem dX5_next_26 : decode cX5_next 26 = .ok (.iaload, 1) := by decide +kernel
theorem dX5_next_27 : decode cX5_next 27 = .ok (.goto 4, 3) := by decide +kernel
def D_X5_next (N : Nat) (h : mh_H) (l0 : Nat) : Option (Int32 × mh_H) :=
  (gI h 5 l0 7).bind fun v1 =>
  if v1 < 0 then (some ((-1 : Int32), h))
  else ((gI h 5 l0 7).bind fun v2 =>
  (gI h 5 l0 5).bind fun v3 =>
  if v3 ≤ v2 then (some ((-1 : Int32), h))
  else ((gR h 5 l0 4).bind fun v4 =>
  (gI h 5 l0 7).bind fun v5 =>
  (aI h v4 v5).bind fun v6 =>
  some (v6, h)))
set_option maxHeartbeats 4000000 in
set_option maxRecDepth 100000 in
theorem T_X5_next {P : mh_E → Prop} {N d : Nat} (hd : 1 ≤ d) {z : (Int32 × mh_H)} {h : mh_H} {l0 : Nat} (hq : D_X5_next N h l0 = some z) : mh_go P d mX5_next 0 [some (.ref l0)] [] h (some (.int z.1)) z.2 := by
  unfold D_X5_next at hq
  refine st_aload_n (pc := 0) dX5_next_0 rfl ?_
  refine bd_geti (pc := 1) hq dX5_next_1 fl_5_43_5 rfl (fun v1 hq => ?_)
  refine bd_if_lt (pc := 4) (tgt := 30) hq dX5_next_4 (by decide) (fun _ hq => ?_) (fun _ hq => ?_)
  ·
    refine st_iconst (pc := 30) (v := (-1 : Int32)) dX5_next_30 rfl ?_
    exact bd_iret (pc := 31) hq dX5_next_31 rfl
  ·
    refine st_aload_n (pc := 7) dX5_next_7 rfl ?_
    refine bd_geti (pc := 8) hq dX5_next_8 fl_5_43_5 rfl (fun v2 hq => ?_)
    refine st_aload_n (pc := 11) dX5_next_11 rfl ?_
    refine bd_geti (pc := 12) hq dX5_next_12 fl_5_34_5 rfl (fun v3 hq => ?_)
    refine bd_icmp_ge (pc := 15) (tgt := 30) hq dX5_next_15 (by decide) (fun _ hq => ?_) (fun _ hq => ?_)
    ·
      refine st_iconst (pc := 30) (v := (-1 : Int32)) dX5_next_30 rfl ?_
      exact bd_iret (pc := 31) hq dX5_next_31 rfl
    ·
      refine st_aload_n (pc := 18) dX5_next_18 rfl ?_
      refine bd_getr (pc := 19) hq dX5_next_19 fl_5_31_5 rfl (fun v4 hq => ?_)
      refine st_aload_n (pc := 22) dX5_next_22 rfl ?_
      refine bd_geti (pc := 23) hq dX5_next_23 fl_5_43_5 rfl (fun v5 hq => ?_)
      refine bd_iald (pc := 26) hq dX5_next_26 (fun v6 hq => ?_)
      refine st_goto (pc := 27) (tgt := 31) dX5_next_27 (by decide) ?_
      exact bd_iret (pc := 31) hq dX5_next_31 rfl
-- HoleWater$Reader.take(I)Z
theorem dX5_take_0 : decode cX5_take 0 = .ok (.aload_n 0, 1) := by decide +kernel
theorem dX5_take_1 : decode cX5_take 1 = .ok (.getfield 46, 3) := by decide +kernel
theorem dX5_take_4 : decode cX5_take 4 = .ok (.ifCond .ne 11, 3) := by decide +kernel
theorem dX5_take_7 : decode cX5_take 7 = .ok (.aload_n 0, 1) := by decide +kernel
theorem dX5_take_8 : decode cX5_take 8 = .ok (.invokevirtual 77, 3) := by decide +kernel
theorem dX5_take_11 : decode cX5_take 11 = .ok (.iload_n 1, 1) := by decide +kernel
theorem dX5_take_12 : decode cX5_take 12 = .ok (.if_icmp .eq 5, 3) := by decide +kernel
theorem dX5_take_17 : decode cX5_take 17 = .ok (.aload_n 0, 1) := by decide +kernel
theorem dX5_take_18 : decode cX5_take 18 = .ok (.dup, 1) := by decide +kernel
theorem dX5_take_19 : decode cX5_take 19 = .ok (.getfield 43, 3) := by decide +kernel
theorem dX5_take_22 : decode cX5_take 22 = .ok (.iconst 1, 1) := by decide +kernel
theorem dX5_take_23 : decode cX5_take 23 = .ok (.iadd, 1) := by decide +kernel
theorem dX5_take_24 : decode cX5_take 24 = .ok (.putfield 43, 3) := by decide +kernel
theorem dX5_take_27 : decode cX5_take 27 = .ok (.iconst 1, 1) := by decide +kernel
theorem dX5_take_28 : decode cX5_take 28 = .ok (.ireturn, 1) := by decide +kernel
theorem dX5_take_15 : decode cX5_take 15 = .ok (.iconst 0, 1) := by decide +kernel
theorem dX5_take_16 : decode cX5_take 16 = .ok (.ireturn, 1) := by decide +kernel
def D_X5_take (N : Nat) (h : mh_H) (l0 : Nat) (l1 : Int32) : Option (Int32 × mh_H) :=
  (gI h 5 l0 8).bind fun v1 =>
  if v1 = 0 then (kO h 5 l0 <|
  (D_X5_next N h l0).bind fun q2 =>
  if q2.1 = l1 then ((gI q2.2 5 l0 7).bind fun v3 =>
  (pI q2.2 5 l0 7 (v3 + (1 : Int32))).bind fun h4 =>
  zB (1 : Int32) h4)
  else (zB (0 : Int32) q2.2))
  else (zB (0 : Int32) h)
set_option maxHeartbeats 4000000 in
set_option maxRecDepth 100000 in
theorem T_X5_take {P : mh_E → Prop} {N d : Nat} (hd : 2 ≤ d) {z : (Int32 × mh_H)} {h : mh_H} {l0 : Nat} {l1 : Int32} (hq : D_X5_take N h l0 l1 = some z) : mh_go P d mX5_take 0 [some (.ref l0), some (.int l1)] [] h (some (.int z.1)) z.2 := by
  unfold D_X5_take at hq
  refine st_aload_n (pc := 0) dX5_take_0 rfl ?_
  refine bd_geti (pc := 1) hq dX5_take_1 fl_5_46_5 rfl (fun v1 hq => ?_)
  refine bd_if_ne (pc := 4) (tgt := 15) hq dX5_take_4 (by decide) (fun _ hq => ?_) (fun _ hq => ?_)
  ·
    refine st_aload_n (pc := 7) dX5_take_7 rfl ?_
    obtain ⟨⟨hbq2, hkq2⟩, hq⟩ := mh_oi hq
    obtain ⟨q2, e2, hq⟩ := mh_ob hq
    refine st_invV (pc := 8) (ci := 5) (vs := []) (rest := []) (st2 := [.int q2.1]) dX5_take_8 okX5_next (by decide) hkq2 hbq2 wd_718 wd_720 wp_18 pdX5_next rfl rfl rfl rfl (Nat.le_trans (by decide) hd) (Nat.le_of_ble_eq_true rfl) (T_X5_next (Nat.le_refl _) e2) rfl ?_
    refine st_iload_n (pc := 11) dX5_take_11 rfl ?_
    refine bd_icmp_eq (pc := 12) (tgt := 17) hq dX5_take_12 (by decide) (fun _ hq => ?_) (fun _ hq => ?_)
    ·
      refine st_aload_n (pc := 17) dX5_take_17 rfl ?_
      refine st_dup (pc := 18) dX5_take_18 rfl ?_
      refine bd_geti (pc := 19) hq dX5_take_19 fl_5_43_5 rfl (fun v3 hq => ?_)
      refine st_iconst (pc := 22) (v := (1 : Int32)) dX5_take_22 rfl ?_
      refine st_iadd (pc := 23) dX5_take_23 ?_
      refine bd_puti (pc := 24) hq dX5_take_24 fl_5_43_5 (Or.inl rfl) rfl (fun h4 hq => ?_)
      refine st_iconst (pc := 27) (v := (1 : Int32)) dX5_take_27 rfl ?_
      exact bd_zret (pc := 28) hq dX5_take_28 rfl
    ·
      refine st_iconst (pc := 15) (v := (0 : Int32)) dX5_take_15 rfl ?_
      exact bd_zret (pc := 16) hq dX5_take_16 rfl
  ·
    refine st_iconst (pc := 15) (v := (0 : Int32)) dX5_take_15 rfl ?_
    exact bd_zret (pc := 16) hq dX5_take_16 rfl
-- HoleWater$Reader.isDigit(I)Z
theorem dX5_isDigit_0 : decode cX5_isDigit 0 = .ok (.iload_n 0, 1) := by decide +kernel
theorem dX5_isDigit_1 : decode cX5_isDigit 1 = .ok (.bipush 48, 2) := by decide +kernel
theorem dX5_isDigit_3 : decode cX5_isDigit 3 = .ok (.if_icmp .lt 13, 3) := by decide +kernel
theorem dX5_isDigit_16 : decode cX5_isDigit 16 = .ok (.iconst 0, 1) := by decide +kernel
theorem dX5_isDigit_17 : decode cX5_isDigit 17 = .ok (.ireturn, 1) := by decide +kernel
theorem dX5_isDigit_6 : decode cX5_isDigit 6 = .ok (.iload_n 0, 1) := by decide +kernel
theorem dX5_isDigit_7 : decode cX5_isDigit 7 = .ok (.bipush 57, 2) := by decide +kernel
theorem dX5_isDigit_9 : decode cX5_isDigit 9 = .ok (.if_icmp .gt 7, 3) := by decide +kernel
theorem dX5_isDigit_12 : decode cX5_isDigit 12 = .ok (.iconst 1, 1) := by decide +kernel
theorem dX5_isDigit_13 : decode cX5_isDigit 13 = .ok (.goto 4, 3) := by decide +kernel
def D_X5_isDigit (N : Nat) (h : mh_H) (l0 : Int32) : Option (Int32 × mh_H) :=
  if l0 < (48 : Int32) then (zB (0 : Int32) h)
  else (if (57 : Int32) < l0 then (zB (0 : Int32) h)
  else (zB (1 : Int32) h))
set_option maxHeartbeats 4000000 in
set_option maxRecDepth 100000 in
theorem T_X5_isDigit {P : mh_E → Prop} {N d : Nat} (hd : 1 ≤ d) {z : (Int32 × mh_H)} {h : mh_H} {l0 : Int32} (hq : D_X5_isDigit N h l0 = some z) : mh_go P d mX5_isDigit 0 [some (.int l0)] [] h (some (.int z.1)) z.2 := by
  unfold D_X5_isDigit at hq
  refine st_iload_n (pc := 0) dX5_isDigit_0 rfl ?_
  refine st_bipush (pc := 1) (v := (48 : Int32)) dX5_isDigit_1 (by decide) ?_
  refine bd_icmp_lt (pc := 3) (tgt := 16) hq dX5_isDigit_3 (by decide) (fun _ hq => ?_) (fun _ hq => ?_)
  ·
    refine st_iconst (pc := 16) (v := (0 : Int32)) dX5_isDigit_16 rfl ?_
    exact bd_zret (pc := 17) hq dX5_isDigit_17 rfl
  ·
    refine st_iload_n (pc := 6) dX5_isDigit_6 rfl ?_
    refine st_bipush (pc := 7) (v := (57 : Int32)) dX5_isDigit_7 (by decide) ?_
    refine bd_icmp_gt (pc := 9) (tgt := 16) hq dX5_isDigit_9 (by decide) (fun _ hq => ?_) (fun _ hq => ?_)
    ·
      refine st_iconst (pc := 16) (v := (0 : Int32)) dX5_isDigit_16 rfl ?_
      exact bd_zret (pc := 17) hq dX5_isDigit_17 rfl
    ·
      refine st_iconst (pc := 12) (v := (1 : Int32)) dX5_isDigit_12 rfl ?_
      refine st_goto (pc := 13) (tgt := 17) dX5_isDigit_13 (by decide) ?_
      exact bd_zret (pc := 17) hq dX5_isDigit_17 rfl
-- HoleWater$Reader.number()I
theorem dX5_number_4 : decode cX5_number 4 = .ok (.iload_n 2, 1) := by decide +kernel
theorem dX5_number_5 : decode cX5_number 5 = .ok (.iconst 3, 1) := by decide +kernel
theorem dX5_number_6 : decode cX5_number 6 = .ok (.if_icmp .ge 42, 3) := by decide +kernel
theorem dX5_number_48 : decode cX5_number 48 = .ok (.iload_n 1, 1) := by decide +kernel
theorem dX5_number_49 : decode cX5_number 49 = .ok (.ireturn, 1) := by decide +kernel
theorem dX5_number_9 : decode cX5_number 9 = .ok (.aload_n 0, 1) := by decide +kernel
theorem dX5_number_10 : decode cX5_number 10 = .ok (.invokevirtual 77, 3) := by decide +kernel
theorem dX5_number_13 : decode cX5_number 13 = .ok (.invokestatic 87, 3) := by decide +kernel
theorem dX5_number_16 : decode cX5_number 16 = .ok (.ifCond .eq 32, 3) := by decide +kernel
theorem dX5_number_19 : decode cX5_number 19 = .ok (.iload_n 1, 1) := by decide +kernel
theorem dX5_number_20 : decode cX5_number 20 = .ok (.bipush 10, 2) := by decide +kernel
theorem dX5_number_22 : decode cX5_number 22 = .ok (.imul, 1) := by decide +kernel
theorem dX5_number_23 : decode cX5_number 23 = .ok (.aload_n 0, 1) := by decide +kernel
theorem dX5_number_24 : decode cX5_number 24 = .ok (.invokevirtual 77, 3) := by decide +kernel
theorem dX5_number_27 : decode cX5_number 27 = .ok (.iadd, 1) := by decide +kernel
theorem dX5_number_28 : decode cX5_number 28 = .ok (.bipush 48, 2) := by decide +kernel
theorem dX5_number_30 : decode cX5_number 30 = .ok (.isub, 1) := by decide +kernel
theorem dX5_number_31 : decode cX5_number 31 = .ok (.istore_n 1, 1) := by decide +kernel
theorem dX5_number_32 : decode cX5_number 32 = .ok (.aload_n 0, 1) := by decide +kernel
theorem dX5_number_33 : decode cX5_number 33 = .ok (.dup, 1) := by decide +kernel
theorem dX5_number_34 : decode cX5_number 34 = .ok (.getfield 43, 3) := by decide +kernel
theorem dX5_number_37 : decode cX5_number 37 = .ok (.iconst 1, 1) := by decide +kernel
theorem dX5_number_38 : decode cX5_number 38 = .ok (.iadd, 1) := by decide +kernel
theorem dX5_number_39 : decode cX5_number 39 = .ok (.putfield 43, 3) := by decide +kernel
theorem dX5_number_42 : decode cX5_number 42 = .ok (.iinc 2 1, 3) := by decide +kernel
theorem dX5_number_45 : decode cX5_number 45 = .ok (.goto (-41), 3) := by decide +kernel
theorem dX5_number_0 : decode cX5_number 0 = .ok (.iconst 0, 1) := by decide +kernel
theorem dX5_number_1 : decode cX5_number 1 = .ok (.istore_n 1, 1) := by decide +kernel
theorem dX5_number_2 : decode cX5_number 2 = .ok (.iconst 0, 1) := by decide +kernel
theorem dX5_number_3 : decode cX5_number 3 = .ok (.istore_n 2, 1) := by decide +kernel
def D_X5_number_4 (N : Nat) : Nat → mh_H → Nat → Int32 → Int32 → Option (Int32 × mh_H)
  | 0, _, _, _, _ => none
  | F + 1, h, l0, l1, l2 =>
    if (3 : Int32) ≤ l2 then (some (l1, h))
    else (kO h 5 l0 <|
    (D_X5_next N h l0).bind fun q1 =>
    (D_X5_isDigit N q1.2 q1.1).bind fun q2 =>
    if q2.1 = 0 then (some (l1, q2.2))
    else (kO q2.2 5 l0 <|
    (D_X5_next N q2.2 l0).bind fun q3 =>
    mh_let (((l1 * (10 : Int32)) + q3.1) - (48 : Int32)) fun v4 =>
    (gI q3.2 5 l0 7).bind fun v5 =>
    (pI q3.2 5 l0 7 (v5 + (1 : Int32))).bind fun h6 =>
    (D_X5_number_4 N F) h6 l0 v4 (l2 + Int32.ofInt (1))))
set_option maxHeartbeats 4000000 in
set_option maxRecDepth 100000 in
theorem T_X5_number_4 {P : mh_E → Prop} {N d : Nat} (hd : 2 ≤ d) {z : (Int32 × mh_H)} : ∀ (F : Nat) (h : mh_H) (l0 : Nat) (l1 : Int32) (l2 : Int32), D_X5_number_4 N F h l0 l1 l2 = some z → mh_go P d mX5_number 4 [some (.ref l0), some (.int l1), some (.int l2)] [] h (some (.int z.1)) z.2 := by
  intro F
  induction F with
  | zero => intro h l0 l1 l2 hq; rw [D_X5_number_4] at hq; cases hq
  | succ F ih =>
    intro h l0 l1 l2 hq
    rw [D_X5_number_4] at hq
    refine st_iload_n (pc := 4) dX5_number_4 rfl ?_
    refine st_iconst (pc := 5) (v := (3 : Int32)) dX5_number_5 rfl ?_
    refine bd_icmp_ge (pc := 6) (tgt := 48) hq dX5_number_6 (by decide) (fun _ hq => ?_) (fun _ hq => ?_)
    ·
      refine st_iload_n (pc := 48) dX5_number_48 rfl ?_
      exact bd_iret (pc := 49) hq dX5_number_49 rfl
    ·
      refine st_aload_n (pc := 9) dX5_number_9 rfl ?_
      obtain ⟨⟨hbq1, hkq1⟩, hq⟩ := mh_oi hq
      obtain ⟨q1, e1, hq⟩ := mh_ob hq
      refine st_invV (pc := 10) (ci := 5) (vs := []) (rest := []) (st2 := [.int q1.1]) dX5_number_10 okX5_next (by decide) hkq1 hbq1 wd_718 wd_720 wp_18 pdX5_next rfl rfl rfl rfl (Nat.le_trans (by decide) hd) (Nat.le_of_ble_eq_true rfl) (T_X5_next (Nat.le_refl _) e1) rfl ?_
      obtain ⟨q2, e2, hq⟩ := mh_ob hq
      refine st_invS (pc := 13) (Y := mX5_isDigit) (vs := [.int q1.1]) (rest := []) (st2 := [.int q2.1]) dX5_number_13 okX5_isDigit wd_722 wd_723 pdX5_isDigit rfl rfl rfl rfl (Nat.le_trans (by decide) hd) (Nat.le_of_ble_eq_true rfl) (T_X5_isDigit (Nat.le_refl _) e2) rfl ?_
      refine bd_if_eq (pc := 16) (tgt := 48) hq dX5_number_16 (by decide) (fun _ hq => ?_) (fun _ hq => ?_)
      ·
        refine st_iload_n (pc := 48) dX5_number_48 rfl ?_
        exact bd_iret (pc := 49) hq dX5_number_49 rfl
      ·
        refine st_iload_n (pc := 19) dX5_number_19 rfl ?_
        refine st_bipush (pc := 20) (v := (10 : Int32)) dX5_number_20 (by decide) ?_
        refine st_imul (pc := 22) dX5_number_22 ?_
        refine st_aload_n (pc := 23) dX5_number_23 rfl ?_
        obtain ⟨⟨hbq3, hkq3⟩, hq⟩ := mh_oi hq
        obtain ⟨q3, e3, hq⟩ := mh_ob hq
        refine st_invV (pc := 24) (ci := 5) (vs := []) (rest := [.int (l1 * (10 : Int32))]) (st2 := [.int q3.1, .int (l1 * (10 : Int32))]) dX5_number_24 okX5_next (by decide) hkq3 hbq3 wd_718 wd_720 wp_18 pdX5_next rfl rfl rfl rfl (Nat.le_trans (by decide) hd) (Nat.le_of_ble_eq_true rfl) (T_X5_next (Nat.le_refl _) e3) rfl ?_
        refine st_iadd (pc := 27) dX5_number_27 ?_
        refine st_bipush (pc := 28) (v := (48 : Int32)) dX5_number_28 (by decide) ?_
        refine st_isub (pc := 30) dX5_number_30 ?_
        refine bd_leti hq (fun v4 hq => ?_)
        refine st_istore_n (pc := 31) (lv' := [some (.ref l0), some (.int v4), some (.int l2)]) dX5_number_31 rfl (by decide) rfl ?_
        refine st_aload_n (pc := 32) dX5_number_32 rfl ?_
        refine st_dup (pc := 33) dX5_number_33 rfl ?_
        refine bd_geti (pc := 34) hq dX5_number_34 fl_5_43_5 rfl (fun v5 hq => ?_)
        refine st_iconst (pc := 37) (v := (1 : Int32)) dX5_number_37 rfl ?_
        refine st_iadd (pc := 38) dX5_number_38 ?_
        refine bd_puti (pc := 39) hq dX5_number_39 fl_5_43_5 (Or.inl rfl) rfl (fun h6 hq => ?_)
        refine st_iinc (pc := 42) (lv' := [some (.ref l0), some (.int v4), some (.int (l2 + Int32.ofInt (1)))]) dX5_number_42 rfl rfl (by decide) rfl ?_
        refine st_goto (pc := 45) (tgt := 4) dX5_number_45 (by decide) ?_
        exact ih _ _ _ _ hq
def D_X5_number (N : Nat) (h : mh_H) (l0 : Nat) : Option (Int32 × mh_H) :=
  D_X5_number_4 N N h l0 (0 : Int32) (0 : Int32)
set_option maxHeartbeats 4000000 in
set_option maxRecDepth 100000 in
theorem T_X5_number {P : mh_E → Prop} {N d : Nat} (hd : 2 ≤ d) {z : (Int32 × mh_H)} {h : mh_H} {l0 : Nat} (hq : D_X5_number N h l0 = some z) : mh_go P d mX5_number 0 [some (.ref l0), none, none] [] h (some (.int z.1)) z.2 := by
  unfold D_X5_number at hq
  refine st_iconst (pc := 0) (v := (0 : Int32)) dX5_number_0 rfl ?_
  refine st_istore_n (pc := 1) (lv' := [some (.ref l0), some (.int (0 : Int32)), none]) dX5_number_1 rfl (by decide) rfl ?_
  refine st_iconst (pc := 2) (v := (0 : Int32)) dX5_number_2 rfl ?_
  refine st_istore_n (pc := 3) (lv' := [some (.ref l0), some (.int (0 : Int32)), some (.int (0 : Int32))]) dX5_number_3 rfl (by decide) rfl ?_
  exact T_X5_number_4 hd N _ _ _ _ hq
-- java/lang/String.isLatin1()Z
theorem dJ0_isLatin1_aae02_0 : decode cJ0_isLatin1_aae02 0 = .ok (.getstatic 38, 3) := by decide +kernel
theorem dJ0_isLatin1_aae02_3 : decode cJ0_isLatin1_aae02 3 = .ok (.ifCond .eq 14, 3) := by decide +kernel
theorem dJ0_isLatin1_aae02_17 : decode cJ0_isLatin1_aae02 17 = .ok (.iconst 0, 1) := by decide +kernel
theorem dJ0_isLatin1_aae02_18 : decode cJ0_isLatin1_aae02 18 = .ok (.ireturn, 1) := by decide +kernel
theorem dJ0_isLatin1_aae02_6 : decode cJ0_isLatin1_aae02 6 = .ok (.aload_n 0, 1) := by decide +kernel
theorem dJ0_isLatin1_aae02_7 : decode cJ0_isLatin1_aae02 7 = .ok (.getfield 15, 3) := by decide +kernel
theorem dJ0_isLatin1_aae02_10 : decode cJ0_isLatin1_aae02 10 = .ok (.ifCond .ne 7, 3) := by decide +kernel
theorem dJ0_isLatin1_aae02_13 : decode cJ0_isLatin1_aae02 13 = .ok (.iconst 1, 1) := by decide +kernel
theorem dJ0_isLatin1_aae02_14 : decode cJ0_isLatin1_aae02 14 = .ok (.goto 4, 3) := by decide +kernel
def D_J0_isLatin1_aae02 (N : Nat) (h : mh_H) (l0 : Nat) : Option (Int32 × mh_H) :=
  if (1 : Int32) = 0 then (zB (0 : Int32) h)
  else ((sC l0).bind fun v1 =>
  if v1 = 0 then (zB (1 : Int32) h)
  else (zB (0 : Int32) h))
set_option maxHeartbeats 4000000 in
set_option maxRecDepth 100000 in
theorem T_J0_isLatin1_aae02 {P : mh_E → Prop} {N d : Nat} (hd : 1 ≤ d) {z : (Int32 × mh_H)} {h : mh_H} {l0 : Nat} (hq : D_J0_isLatin1_aae02 N h l0 = some z) : mh_go P d mJ0_isLatin1_aae02 0 [some (.ref l0)] [] h (some (.int z.1)) z.2 := by
  unfold D_J0_isLatin1_aae02 at hq
  refine st_cs (pc := 0) dJ0_isLatin1_aae02_0 wd_746 ?_
  refine bd_if_eq (pc := 3) (tgt := 17) hq dJ0_isLatin1_aae02_3 (by decide) (fun _ hq => ?_) (fun _ hq => ?_)
  ·
    refine st_iconst (pc := 17) (v := (0 : Int32)) dJ0_isLatin1_aae02_17 rfl ?_
    exact bd_zret (pc := 18) hq dJ0_isLatin1_aae02_18 rfl
  ·
    refine st_aload_n (pc := 6) dJ0_isLatin1_aae02_6 rfl ?_
    refine bd_sC (pc := 7) hq dJ0_isLatin1_aae02_7 wd_1751 (fun v1 hq => ?_)
    refine bd_if_ne (pc := 10) (tgt := 17) hq dJ0_isLatin1_aae02_10 (by decide) (fun _ hq => ?_) (fun _ hq => ?_)
    ·
      refine st_iconst (pc := 13) (v := (1 : Int32)) dJ0_isLatin1_aae02_13 rfl ?_
      refine st_goto (pc := 14) (tgt := 18) dJ0_isLatin1_aae02_14 (by decide) ?_
      exact bd_zret (pc := 18) hq dJ0_isLatin1_aae02_18 rfl
    ·
      refine st_iconst (pc := 17) (v := (0 : Int32)) dJ0_isLatin1_aae02_17 rfl ?_
      exact bd_zret (pc := 18) hq dJ0_isLatin1_aae02_18 rfl
-- java/lang/String.coder()B
theorem dJ0_coder_7d493_0 : decode cJ0_coder_7d493 0 = .ok (.getstatic 38, 3) := by decide +kernel
theorem dJ0_coder_7d493_3 : decode cJ0_coder_7d493 3 = .ok (.ifCond .eq 10, 3) := by decide +kernel
theorem dJ0_coder_7d493_13 : decode cJ0_coder_7d493 13 = .ok (.iconst 1, 1) := by decide +kernel
theorem dJ0_coder_7d493_14 : decode cJ0_coder_7d493 14 = .ok (.ireturn, 1) := by decide +kernel
theorem dJ0_coder_7d493_6 : decode cJ0_coder_7d493 6 = .ok (.aload_n 0, 1) := by decide +kernel
theorem dJ0_coder_7d493_7 : decode cJ0_coder_7d493 7 = .ok (.getfield 15, 3) := by decide +kernel
theorem dJ0_coder_7d493_10 : decode cJ0_coder_7d493 10 = .ok (.goto 4, 3) := by decide +kernel
def D_J0_coder_7d493 (N : Nat) (h : mh_H) (l0 : Nat) : Option (Int32 × mh_H) :=
  if (1 : Int32) = 0 then (zB (1 : Int32) h)
  else ((sC l0).bind fun v1 =>
  zB v1 h)
set_option maxHeartbeats 4000000 in
set_option maxRecDepth 100000 in
theorem T_J0_coder_7d493 {P : mh_E → Prop} {N d : Nat} (hd : 1 ≤ d) {z : (Int32 × mh_H)} {h : mh_H} {l0 : Nat} (hq : D_J0_coder_7d493 N h l0 = some z) : mh_go P d mJ0_coder_7d493 0 [some (.ref l0)] [] h (some (.int z.1)) z.2 := by
  unfold D_J0_coder_7d493 at hq
  refine st_cs (pc := 0) dJ0_coder_7d493_0 wd_746 ?_
  refine bd_if_eq (pc := 3) (tgt := 13) hq dJ0_coder_7d493_3 (by decide) (fun _ hq => ?_) (fun _ hq => ?_)
  ·
    refine st_iconst (pc := 13) (v := (1 : Int32)) dJ0_coder_7d493_13 rfl ?_
    exact bd_bret (pc := 14) hq dJ0_coder_7d493_14 rfl
  ·
    refine st_aload_n (pc := 6) dJ0_coder_7d493_6 rfl ?_
    refine bd_sC (pc := 7) hq dJ0_coder_7d493_7 wd_1751 (fun v1 hq => ?_)
    refine st_goto (pc := 10) (tgt := 14) dJ0_coder_7d493_10 (by decide) ?_
    exact bd_bret (pc := 14) hq dJ0_coder_7d493_14 rfl
-- java/lang/String.length()I
theorem dJ0_length_8abf5_0 : decode cJ0_length_8abf5 0 = .ok (.aload_n 0, 1) := by decide +kernel
theorem dJ0_length_8abf5_1 : decode cJ0_length_8abf5 1 = .ok (.getfield 9, 3) := by decide +kernel
theorem dJ0_length_8abf5_4 : decode cJ0_length_8abf5 4 = .ok (.arraylength, 1) := by decide +kernel
theorem dJ0_length_8abf5_5 : decode cJ0_length_8abf5 5 = .ok (.aload_n 0, 1) := by decide +kernel
theorem dJ0_length_8abf5_6 : decode cJ0_length_8abf5 6 = .ok (.invokevirtual 335, 3) := by decide +kernel
theorem dJ0_length_8abf5_9 : decode cJ0_length_8abf5 9 = .ok (.ishr, 1) := by decide +kernel
theorem dJ0_length_8abf5_10 : decode cJ0_length_8abf5 10 = .ok (.ireturn, 1) := by decide +kernel
def D_J0_length_8abf5 (N : Nat) (h : mh_H) (l0 : Nat) : Option (Int32 × mh_H) :=
  (sV l0).bind fun v1 =>
  (tL v1).bind fun v2 =>
  kS l0 <|
  (D_J0_coder_7d493 N h l0).bind fun q3 =>
  some (v2 >>> (q3.1 &&& 31), q3.2)
set_option maxHeartbeats 4000000 in
set_option maxRecDepth 100000 in
theorem T_J0_length_8abf5 {P : mh_E → Prop} {N d : Nat} (hd : 2 ≤ d) {z : (Int32 × mh_H)} {h : mh_H} {l0 : Nat} (hq : D_J0_length_8abf5 N h l0 = some z) : mh_go P d mJ0_length_8abf5 0 [some (.ref l0)] [] h (some (.int z.1)) z.2 := by
  unfold D_J0_length_8abf5 at hq
  refine st_aload_n (pc := 0) dJ0_length_8abf5_0 rfl ?_
  refine bd_sV (pc := 1) hq dJ0_length_8abf5_1 wd_1752 (fun v1 hq => ?_)
  refine bd_tl (pc := 4) hq dJ0_length_8abf5_4 (fun v2 hq => ?_)
  refine st_aload_n (pc := 5) dJ0_length_8abf5_5 rfl ?_
  obtain ⟨hSq3, hq⟩ := mh_oi hq
  obtain ⟨q3, e3, hq⟩ := mh_ob hq
  refine st_invT (pc := 6) (vs := []) (rest := [.int v2]) (st2 := [.int q3.1, .int v2]) dJ0_length_8abf5_6 okJ0_coder_7d493 hSq3 wd_752 wd_753 wd_754 pdJ0_coder_7d493 rfl rfl rfl rfl (Nat.le_trans (by decide) hd) (Nat.le_of_ble_eq_true rfl) (T_J0_coder_7d493 (Nat.le_refl _) e3) rfl ?_
  refine st_ishr (pc := 9) dJ0_length_8abf5_9 ?_
  exact bd_iret (pc := 10) hq dJ0_length_8abf5_10 rfl
-- java/lang/StringLatin1.canEncode(I)Z
theorem dJ1_canEncode_9a6ad_0 : decode cJ1_canEncode_9a6ad 0 = .ok (.iload_n 0, 1) := by decide +kernel
theorem dJ1_canEncode_9a6ad_1 : decode cJ1_canEncode_9a6ad 1 = .ok (.ifCond .lt 14, 3) := by decide +kernel
theorem dJ1_canEncode_9a6ad_15 : decode cJ1_canEncode_9a6ad 15 = .ok (.iconst 0, 1) := by decide +kernel
theorem dJ1_canEncode_9a6ad_16 : decode cJ1_canEncode_9a6ad 16 = .ok (.ireturn, 1) := by decide +kernel
theorem dJ1_canEncode_9a6ad_4 : decode cJ1_canEncode_9a6ad 4 = .ok (.iload_n 0, 1) := by decide +kernel
theorem dJ1_canEncode_9a6ad_5 : decode cJ1_canEncode_9a6ad 5 = .ok (.sipush 255, 3) := by decide +kernel
theorem dJ1_canEncode_9a6ad_8 : decode cJ1_canEncode_9a6ad 8 = .ok (.if_icmp .gt 7, 3) := by decide +kernel
theorem dJ1_canEncode_9a6ad_11 : decode cJ1_canEncode_9a6ad 11 = .ok (.iconst 1, 1) := by decide +kernel
theorem dJ1_canEncode_9a6ad_12 : decode cJ1_canEncode_9a6ad 12 = .ok (.goto 4, 3) := by decide +kernel
def D_J1_canEncode_9a6ad (N : Nat) (h : mh_H) (l0 : Int32) : Option (Int32 × mh_H) :=
  if l0 < 0 then (zB (0 : Int32) h)
  else (if (255 : Int32) < l0 then (zB (0 : Int32) h)
  else (zB (1 : Int32) h))
set_option maxHeartbeats 4000000 in
set_option maxRecDepth 100000 in
theorem T_J1_canEncode_9a6ad {P : mh_E → Prop} {N d : Nat} (hd : 1 ≤ d) {z : (Int32 × mh_H)} {h : mh_H} {l0 : Int32} (hq : D_J1_canEncode_9a6ad N h l0 = some z) : mh_go P d mJ1_canEncode_9a6ad 0 [some (.int l0)] [] h (some (.int z.1)) z.2 := by
  unfold D_J1_canEncode_9a6ad at hq
  refine st_iload_n (pc := 0) dJ1_canEncode_9a6ad_0 rfl ?_
  refine bd_if_lt (pc := 1) (tgt := 15) hq dJ1_canEncode_9a6ad_1 (by decide) (fun _ hq => ?_) (fun _ hq => ?_)
  ·
    refine st_iconst (pc := 15) (v := (0 : Int32)) dJ1_canEncode_9a6ad_15 rfl ?_
    exact bd_zret (pc := 16) hq dJ1_canEncode_9a6ad_16 rfl
  ·
    refine st_iload_n (pc := 4) dJ1_canEncode_9a6ad_4 rfl ?_
    refine st_sipush (pc := 5) (v := (255 : Int32)) dJ1_canEncode_9a6ad_5 (by decide) ?_
    refine bd_icmp_gt (pc := 8) (tgt := 15) hq dJ1_canEncode_9a6ad_8 (by decide) (fun _ hq => ?_) (fun _ hq => ?_)
    ·
      refine st_iconst (pc := 15) (v := (0 : Int32)) dJ1_canEncode_9a6ad_15 rfl ?_
      exact bd_zret (pc := 16) hq dJ1_canEncode_9a6ad_16 rfl
    ·
      refine st_iconst (pc := 11) (v := (1 : Int32)) dJ1_canEncode_9a6ad_11 rfl ?_
      refine st_goto (pc := 12) (tgt := 16) dJ1_canEncode_9a6ad_12 (by decide) ?_
      exact bd_zret (pc := 16) hq dJ1_canEncode_9a6ad_16 rfl
-- java/lang/StringLatin1.indexOfChar([BIII)I
theorem dJ1_indexOfChar_4cfef_7 : decode cJ1_indexOfChar_4cfef 7 = .ok (.iload 5, 2) := by decide +kernel
theorem dJ1_indexOfChar_4cfef_9 : decode cJ1_indexOfChar_4cfef 9 = .ok (.iload_n 3, 1) := by decide +kernel
theorem dJ1_indexOfChar_4cfef_10 : decode cJ1_indexOfChar_4cfef 10 = .ok (.if_icmp .ge 21, 3) := by decide +kernel
theorem dJ1_indexOfChar_4cfef_31 : decode cJ1_indexOfChar_4cfef 31 = .ok (.iconst (-1), 1) := by decide +kernel
theorem dJ1_indexOfChar_4cfef_32 : decode cJ1_indexOfChar_4cfef 32 = .ok (.ireturn, 1) := by decide +kernel
theorem dJ1_indexOfChar_4cfef_13 : decode cJ1_indexOfChar_4cfef 13 = .ok (.aload_n 0, 1) := by decide +kernel
theorem dJ1_indexOfChar_4cfef_14 : decode cJ1_indexOfChar_4cfef 14 = .ok (.iload 5, 2) := by decide +kernel
theorem dJ1_indexOfChar_4cfef_16 : decode cJ1_indexOfChar_4cfef 16 = .ok (.baload, 1) := by decide +kernel
theorem dJ1_indexOfChar_4cfef_17 : decode cJ1_indexOfChar_4cfef 17 = .ok (.iload 4, 2) := by decide +kernel
theorem dJ1_indexOfChar_4cfef_19 : decode cJ1_indexOfChar_4cfef 19 = .ok (.if_icmp .ne 6, 3) := by decide +kernel
theorem dJ1_indexOfChar_4cfef_22 : decode cJ1_indexOfChar_4cfef 22 = .ok (.iload 5, 2) := by decide +kernel
theorem dJ1_indexOfChar_4cfef_24 : decode cJ1_indexOfChar_4cfef 24 = .ok (.ireturn, 1) := by decide +kernel
theorem dJ1_indexOfChar_4cfef_25 : decode cJ1_indexOfChar_4cfef 25 = .ok (.iinc 5 1, 3) := by decide +kernel
theorem dJ1_indexOfChar_4cfef_28 : decode cJ1_indexOfChar_4cfef 28 = .ok (.goto (-21), 3) := by decide +kernel
theorem dJ1_indexOfChar_4cfef_0 : decode cJ1_indexOfChar_4cfef 0 = .ok (.iload_n 1, 1) := by decide +kernel
theorem dJ1_indexOfChar_4cfef_1 : decode cJ1_indexOfChar_4cfef 1 = .ok (.i2b, 1) := by decide +kernel
theorem dJ1_indexOfChar_4cfef_2 : decode cJ1_indexOfChar_4cfef 2 = .ok (.istore 4, 2) := by decide +kernel
theorem dJ1_indexOfChar_4cfef_4 : decode cJ1_indexOfChar_4cfef 4 = .ok (.iload_n 2, 1) := by decide +kernel
theorem dJ1_indexOfChar_4cfef_5 : decode cJ1_indexOfChar_4cfef 5 = .ok (.istore 5, 2) := by decide +kernel
def D_J1_indexOfChar_4cfef_7 (N : Nat) : Nat → mh_H → Nat → Int32 → Int32 → Int32 → Option (Int32 × mh_H)
  | 0, _, _, _, _, _ => none
  | F + 1, h, l0, l3, l4, l5 =>
    if l3 ≤ l5 then (some ((-1 : Int32), h))
    else ((tB l0 l5).bind fun v1 =>
    if v1 = l4 then (some (l5, h))
    else ((D_J1_indexOfChar_4cfef_7 N F) h l0 l3 l4 (l5 + Int32.ofInt (1))))
set_option maxHeartbeats 4000000 in
set_option maxRecDepth 100000 in
theorem T_J1_indexOfChar_4cfef_7 {P : mh_E → Prop} {N d : Nat} (hd : 1 ≤ d) {z : (Int32 × mh_H)} : ∀ (F : Nat) (h : mh_H) (l0 : Nat) (l3 : Int32) (l4 : Int32) (l5 : Int32), D_J1_indexOfChar_4cfef_7 N F h l0 l3 l4 l5 = some z → mh_go P d mJ1_indexOfChar_4cfef 7 [some (.ref l0), none, none, some (.int l3), some (.int l4), some (.int l5)] [] h (some (.int z.1)) z.2 := by
  intro F
  induction F with
  | zero => intro h l0 l3 l4 l5 hq; rw [D_J1_indexOfChar_4cfef_7] at hq; cases hq
  | succ F ih =>
    intro h l0 l3 l4 l5 hq
    rw [D_J1_indexOfChar_4cfef_7] at hq
    refine st_iload (pc := 7) dJ1_indexOfChar_4cfef_7 rfl ?_
    refine st_iload_n (pc := 9) dJ1_indexOfChar_4cfef_9 rfl ?_
    refine bd_icmp_ge (pc := 10) (tgt := 31) hq dJ1_indexOfChar_4cfef_10 (by decide) (fun _ hq => ?_) (fun _ hq => ?_)
    ·
      refine st_iconst (pc := 31) (v := (-1 : Int32)) dJ1_indexOfChar_4cfef_31 rfl ?_
      exact bd_iret (pc := 32) hq dJ1_indexOfChar_4cfef_32 rfl
    ·
      refine st_aload_n (pc := 13) dJ1_indexOfChar_4cfef_13 rfl ?_
      refine st_iload (pc := 14) dJ1_indexOfChar_4cfef_14 rfl ?_
      refine bd_tb (pc := 16) hq dJ1_indexOfChar_4cfef_16 (fun v1 hq => ?_)
      refine st_iload (pc := 17) dJ1_indexOfChar_4cfef_17 rfl ?_
      refine bd_icmp_ne (pc := 19) (tgt := 25) hq dJ1_indexOfChar_4cfef_19 (by decide) (fun _ hq => ?_) (fun _ hq => ?_)
      ·
        refine st_iload (pc := 22) dJ1_indexOfChar_4cfef_22 rfl ?_
        exact bd_iret (pc := 24) hq dJ1_indexOfChar_4cfef_24 rfl
      ·
        refine st_iinc (pc := 25) (lv' := [some (.ref l0), none, none, some (.int l3), some (.int l4), some (.int (l5 + Int32.ofInt (1)))]) dJ1_indexOfChar_4cfef_25 rfl rfl (by decide) rfl ?_
        refine st_goto (pc := 28) (tgt := 7) dJ1_indexOfChar_4cfef_28 (by decide) ?_
        exact ih _ _ _ _ _ hq
def D_J1_indexOfChar_4cfef (N : Nat) (h : mh_H) (l0 : Nat) (l1 : Int32) (l2 : Int32) (l3 : Int32) : Option (Int32 × mh_H) :=
  D_J1_indexOfChar_4cfef_7 N N h l0 l3 l1.toInt8.toInt32 l2
set_option maxHeartbeats 4000000 in
set_option maxRecDepth 100000 in
theorem T_J1_indexOfChar_4cfef {P : mh_E → Prop} {N d : Nat} (hd : 1 ≤ d) {z : (Int32 × mh_H)} {h : mh_H} {l0 : Nat} {l1 : Int32} {l2 : Int32} {l3 : Int32} (hq : D_J1_indexOfChar_4cfef N h l0 l1 l2 l3 = some z) : mh_go P d mJ1_indexOfChar_4cfef 0 [some (.ref l0), some (.int l1), some (.int l2), some (.int l3), none, none] [] h (some (.int z.1)) z.2 := by
  unfold D_J1_indexOfChar_4cfef at hq
  refine st_iload_n (pc := 0) dJ1_indexOfChar_4cfef_0 rfl ?_
  refine st_i2b (pc := 1) dJ1_indexOfChar_4cfef_1 ?_
  refine st_istore (pc := 2) (lv' := [some (.ref l0), some (.int l1), some (.int l2), some (.int l3), some (.int l1.toInt8.toInt32), none]) dJ1_indexOfChar_4cfef_2 rfl (by decide) rfl ?_
  refine st_iload_n (pc := 4) dJ1_indexOfChar_4cfef_4 rfl ?_
  refine st_istore (pc := 5) (lv' := [some (.ref l0), some (.int l1), some (.int l2), some (.int l3), some (.int l1.toInt8.toInt32), some (.int l2)]) dJ1_indexOfChar_4cfef_5 rfl (by decide) rfl ?_
  refine st_lesS (lv' := [some (.ref l0), none, none, some (.int l3), some (.int l1.toInt8.toInt32), some (.int l2)]) ⟨Or.inr rfl, Or.inl rfl, Or.inl rfl, Or.inr rfl, Or.inr rfl, Or.inr rfl, trivial⟩ ?_
  exact T_J1_indexOfChar_4cfef_7 hd N _ _ _ _ _ hq
-- java/lang/StringLatin1.indexOf([BIII)I
theorem dJ1_indexOf_4cfef_0 : decode cJ1_indexOf_4cfef 0 = .ok (.iload_n 1, 1) := by decide +kernel
theorem dJ1_indexOf_4cfef_1 : decode cJ1_indexOf_4cfef 1 = .ok (.invokestatic 88, 3) := by decide +kernel
theorem dJ1_indexOf_4cfef_4 : decode cJ1_indexOf_4cfef 4 = .ok (.ifCond .ne 5, 3) := by decide +kernel
theorem dJ1_indexOf_4cfef_7 : decode cJ1_indexOf_4cfef 7 = .ok (.iconst (-1), 1) := by decide +kernel
theorem dJ1_indexOf_4cfef_8 : decode cJ1_indexOf_4cfef 8 = .ok (.ireturn, 1) := by decide +kernel
theorem dJ1_indexOf_4cfef_9 : decode cJ1_indexOf_4cfef 9 = .ok (.iload_n 2, 1) := by decide +kernel
theorem dJ1_indexOf_4cfef_10 : decode cJ1_indexOf_4cfef 10 = .ok (.iconst 0, 1) := by decide +kernel
theorem dJ1_indexOf_4cfef_11 : decode cJ1_indexOf_4cfef 11 = .ok (.invokestatic 92, 3) := by decide +kernel
theorem dJ1_indexOf_4cfef_14 : decode cJ1_indexOf_4cfef 14 = .ok (.istore_n 2, 1) := by decide +kernel
theorem dJ1_indexOf_4cfef_15 : decode cJ1_indexOf_4cfef 15 = .ok (.iload_n 3, 1) := by decide +kernel
theorem dJ1_indexOf_4cfef_16 : decode cJ1_indexOf_4cfef 16 = .ok (.aload_n 0, 1) := by decide +kernel
theorem dJ1_indexOf_4cfef_17 : decode cJ1_indexOf_4cfef 17 = .ok (.arraylength, 1) := by decide +kernel
theorem dJ1_indexOf_4cfef_18 : decode cJ1_indexOf_4cfef 18 = .ok (.invokestatic 38, 3) := by decide +kernel
theorem dJ1_indexOf_4cfef_21 : decode cJ1_indexOf_4cfef 21 = .ok (.istore_n 3, 1) := by decide +kernel
theorem dJ1_indexOf_4cfef_22 : decode cJ1_indexOf_4cfef 22 = .ok (.iload_n 2, 1) := by decide +kernel
theorem dJ1_indexOf_4cfef_23 : decode cJ1_indexOf_4cfef 23 = .ok (.iload_n 3, 1) := by decide +kernel
theorem dJ1_indexOf_4cfef_24 : decode cJ1_indexOf_4cfef 24 = .ok (.if_icmp .lt 5, 3) := by decide +kernel
theorem dJ1_indexOf_4cfef_29 : decode cJ1_indexOf_4cfef 29 = .ok (.aload_n 0, 1) := by decide +kernel
theorem dJ1_indexOf_4cfef_30 : decode cJ1_indexOf_4cfef 30 = .ok (.iload_n 1, 1) := by decide +kernel
theorem dJ1_indexOf_4cfef_31 : decode cJ1_indexOf_4cfef 31 = .ok (.iload_n 2, 1) := by decide +kernel
theorem dJ1_indexOf_4cfef_32 : decode cJ1_indexOf_4cfef 32 = .ok (.iload_n 3, 1) := by decide +kernel
theorem dJ1_indexOf_4cfef_33 : decode cJ1_indexOf_4cfef 33 = .ok (.invokestatic 95, 3) := by decide +kernel
theorem dJ1_indexOf_4cfef_36 : decode cJ1_indexOf_4cfef 36 = .ok (.ireturn, 1) := by decide +kernel
theorem dJ1_indexOf_4cfef_27 : decode cJ1_indexOf_4cfef 27 = .ok (.iconst (-1), 1) := by decide +kernel
theorem dJ1_indexOf_4cfef_28 : decode cJ1_indexOf_4cfef 28 = .ok (.ireturn, 1) := by decide +kernel
def D_J1_indexOf_4cfef (N : Nat) (h : mh_H) (l0 : Nat) (l1 : Int32) (l2 : Int32) (l3 : Int32) : Option (Int32 × mh_H) :=
  (D_J1_canEncode_9a6ad N h l1).bind fun q1 =>
  if q1.1 = 0 then (some ((-1 : Int32), q1.2))
  else ((tL l0).bind fun v2 =>
  if (mh_max l2 (0 : Int32)) < (mh_min l3 v2) then ((D_J1_indexOfChar_4cfef N q1.2 l0 l1 (mh_max l2 (0 : Int32)) (mh_min l3 v2)).bind fun q3 =>
  some (q3.1, q3.2))
  else (some ((-1 : Int32), q1.2)))
set_option maxHeartbeats 4000000 in
set_option maxRecDepth 100000 in
theorem T_J1_indexOf_4cfef {P : mh_E → Prop} {N d : Nat} (hd : 2 ≤ d) {z : (Int32 × mh_H)} {h : mh_H} {l0 : Nat} {l1 : Int32} {l2 : Int32} {l3 : Int32} (hq : D_J1_indexOf_4cfef N h l0 l1 l2 l3 = some z) : mh_go P d mJ1_indexOf_4cfef 0 [some (.ref l0), some (.int l1), some (.int l2), some (.int l3)] [] h (some (.int z.1)) z.2 := by
  unfold D_J1_indexOf_4cfef at hq
  refine st_iload_n (pc := 0) dJ1_indexOf_4cfef_0 rfl ?_
  obtain ⟨q1, e1, hq⟩ := mh_ob hq
  refine st_invS (pc := 1) (Y := mJ1_canEncode_9a6ad) (vs := [.int l1]) (rest := []) (st2 := [.int q1.1]) dJ1_indexOf_4cfef_1 okJ1_canEncode_9a6ad wd_759 wd_760 pdJ1_canEncode_9a6ad rfl rfl rfl rfl (Nat.le_trans (by decide) hd) (Nat.le_of_ble_eq_true rfl) (T_J1_canEncode_9a6ad (Nat.le_refl _) e1) rfl ?_
  refine bd_if_ne (pc := 4) (tgt := 9) hq dJ1_indexOf_4cfef_4 (by decide) (fun _ hq => ?_) (fun _ hq => ?_)
  ·
    refine st_iconst (pc := 7) (v := (-1 : Int32)) dJ1_indexOf_4cfef_7 rfl ?_
    exact bd_iret (pc := 8) hq dJ1_indexOf_4cfef_8 rfl
  ·
    refine st_iload_n (pc := 9) dJ1_indexOf_4cfef_9 rfl ?_
    refine st_iconst (pc := 10) (v := (0 : Int32)) dJ1_indexOf_4cfef_10 rfl ?_
    refine st_mmax (pc := 11) dJ1_indexOf_4cfef_11 wd_762 (Nat.le_trans (by decide) hd) (Nat.le_of_ble_eq_true rfl) ?_
    refine st_istore_n (pc := 14) (lv' := [some (.ref l0), some (.int l1), some (.int (mh_max l2 (0 : Int32))), some (.int l3)]) dJ1_indexOf_4cfef_14 rfl (by decide) rfl ?_
    refine st_iload_n (pc := 15) dJ1_indexOf_4cfef_15 rfl ?_
    refine st_aload_n (pc := 16) dJ1_indexOf_4cfef_16 rfl ?_
    refine bd_tl (pc := 17) hq dJ1_indexOf_4cfef_17 (fun v2 hq => ?_)
    refine st_mmin (pc := 18) dJ1_indexOf_4cfef_18 wd_763 (Nat.le_trans (by decide) hd) (Nat.le_of_ble_eq_true rfl) ?_
    refine st_istore_n (pc := 21) (lv' := [some (.ref l0), some (.int l1), some (.int (mh_max l2 (0 : Int32))), some (.int (mh_min l3 v2))]) dJ1_indexOf_4cfef_21 rfl (by decide) rfl ?_
    refine st_iload_n (pc := 22) dJ1_indexOf_4cfef_22 rfl ?_
    refine st_iload_n (pc := 23) dJ1_indexOf_4cfef_23 rfl ?_
    refine bd_icmp_lt (pc := 24) (tgt := 29) hq dJ1_indexOf_4cfef_24 (by decide) (fun _ hq => ?_) (fun _ hq => ?_)
    ·
      refine st_aload_n (pc := 29) dJ1_indexOf_4cfef_29 rfl ?_
      refine st_iload_n (pc := 30) dJ1_indexOf_4cfef_30 rfl ?_
      refine st_iload_n (pc := 31) dJ1_indexOf_4cfef_31 rfl ?_
      refine st_iload_n (pc := 32) dJ1_indexOf_4cfef_32 rfl ?_
      obtain ⟨q3, e3, hq⟩ := mh_ob hq
      refine st_invS (pc := 33) (Y := mJ1_indexOfChar_4cfef) (vs := [.ref l0, .int l1, .int (mh_max l2 (0 : Int32)), .int (mh_min l3 v2)]) (rest := []) (st2 := [.int q3.1]) dJ1_indexOf_4cfef_33 okJ1_indexOfChar_4cfef wd_764 wd_765 pdJ1_indexOfChar_4cfef rfl rfl rfl rfl (Nat.le_trans (by decide) hd) (Nat.le_of_ble_eq_true rfl) (T_J1_indexOfChar_4cfef (Nat.le_refl _) e3) rfl ?_
      exact bd_iret (pc := 36) hq dJ1_indexOf_4cfef_36 rfl
    ·
      refine st_iconst (pc := 27) (v := (-1 : Int32)) dJ1_indexOf_4cfef_27 rfl ?_
      exact bd_iret (pc := 28) hq dJ1_indexOf_4cfef_28 rfl
-- java/lang/String.indexOf(II)I
theorem dJ0_indexOf_7cf53_0 : decode cJ0_indexOf_7cf53 0 = .ok (.aload_n 0, 1) := by decide +kernel
theorem dJ0_indexOf_7cf53_1 : decode cJ0_indexOf_7cf53 1 = .ok (.invokevirtual 492, 3) := by decide +kernel
theorem dJ0_indexOf_7cf53_4 : decode cJ0_indexOf_7cf53 4 = .ok (.ifCond .eq 19, 3) := by decide +kernel
theorem dJ0_indexOf_7cf53_23 : decode cJ0_indexOf_7cf53 23 = .ok (.aload_n 0, 1) := by decide +kernel
theorem dJ0_indexOf_7cf53_24 : decode cJ0_indexOf_7cf53 24 = .ok (.getfield 9, 3) := by decide +kernel
theorem dJ0_indexOf_7cf53_27 : decode cJ0_indexOf_7cf53 27 = .ok (.iload_n 1, 1) := by decide +kernel
theorem dJ0_indexOf_7cf53_28 : decode cJ0_indexOf_7cf53 28 = .ok (.iload_n 2, 1) := by decide +kernel
theorem dJ0_indexOf_7cf53_29 : decode cJ0_indexOf_7cf53 29 = .ok (.aload_n 0, 1) := by decide +kernel
theorem dJ0_indexOf_7cf53_30 : decode cJ0_indexOf_7cf53 30 = .ok (.invokevirtual 505, 3) := by decide +kernel
theorem dJ0_indexOf_7cf53_33 : decode cJ0_indexOf_7cf53 33 = .ok (.invokestatic 640, 3) := by decide +kernel
theorem dJ0_indexOf_7cf53_7 : decode cJ0_indexOf_7cf53 7 = .ok (.aload_n 0, 1) := by decide +kernel
theorem dJ0_indexOf_7cf53_8 : decode cJ0_indexOf_7cf53 8 = .ok (.getfield 9, 3) := by decide +kernel
theorem dJ0_indexOf_7cf53_11 : decode cJ0_indexOf_7cf53 11 = .ok (.iload_n 1, 1) := by decide +kernel
theorem dJ0_indexOf_7cf53_12 : decode cJ0_indexOf_7cf53 12 = .ok (.iload_n 2, 1) := by decide +kernel
theorem dJ0_indexOf_7cf53_13 : decode cJ0_indexOf_7cf53 13 = .ok (.aload_n 0, 1) := by decide +kernel
theorem dJ0_indexOf_7cf53_14 : decode cJ0_indexOf_7cf53 14 = .ok (.invokevirtual 505, 3) := by decide +kernel
theorem dJ0_indexOf_7cf53_17 : decode cJ0_indexOf_7cf53 17 = .ok (.invokestatic 637, 3) := by decide +kernel
theorem dJ0_indexOf_7cf53_20 : decode cJ0_indexOf_7cf53 20 = .ok (.goto 16, 3) := by decide +kernel
theorem dJ0_indexOf_7cf53_36 : decode cJ0_indexOf_7cf53 36 = .ok (.ireturn, 1) := by decide +kernel
def D_J0_indexOf_7cf53 (N : Nat) (h : mh_H) (l0 : Nat) (l1 : Int32) (l2 : Int32) : Option (Int32 × mh_H) :=
  kS l0 <|
  (D_J0_isLatin1_aae02 N h l0).bind fun q1 =>
  if q1.1 = 0 then (none)
  else ((sV l0).bind fun v2 =>
  kS l0 <|
  (D_J0_length_8abf5 N q1.2 l0).bind fun q3 =>
  (D_J1_indexOf_4cfef N q3.2 v2 l1 l2 q3.1).bind fun q4 =>
  some (q4.1, q4.2))
set_option maxHeartbeats 4000000 in
set_option maxRecDepth 100000 in
theorem T_J0_indexOf_7cf53 {P : mh_E → Prop} {N d : Nat} (hd : 3 ≤ d) {z : (Int32 × mh_H)} {h : mh_H} {l0 : Nat} {l1 : Int32} {l2 : Int32} (hq : D_J0_indexOf_7cf53 N h l0 l1 l2 = some z) : mh_go P d mJ0_indexOf_7cf53 0 [some (.ref l0), some (.int l1), some (.int l2)] [] h (some (.int z.1)) z.2 := by
  unfold D_J0_indexOf_7cf53 at hq
  refine st_aload_n (pc := 0) dJ0_indexOf_7cf53_0 rfl ?_
  obtain ⟨hSq1, hq⟩ := mh_oi hq
  obtain ⟨q1, e1, hq⟩ := mh_ob hq
  refine st_invT (pc := 1) (vs := []) (rest := []) (st2 := [.int q1.1]) dJ0_indexOf_7cf53_1 okJ0_isLatin1_aae02 hSq1 wd_742 wd_743 wd_744 pdJ0_isLatin1_aae02 rfl rfl rfl rfl (Nat.le_trans (by decide) hd) (Nat.le_of_ble_eq_true rfl) (T_J0_isLatin1_aae02 (Nat.le_refl _) e1) rfl ?_
  refine bd_if_eq (pc := 4) (tgt := 23) hq dJ0_indexOf_7cf53_4 (by decide) (fun _ hq => ?_) (fun _ hq => ?_)
  ·
    cases hq
  ·
    refine st_aload_n (pc := 7) dJ0_indexOf_7cf53_7 rfl ?_
    refine bd_sV (pc := 8) hq dJ0_indexOf_7cf53_8 wd_1752 (fun v2 hq => ?_)
    refine st_iload_n (pc := 11) dJ0_indexOf_7cf53_11 rfl ?_
    refine st_iload_n (pc := 12) dJ0_indexOf_7cf53_12 rfl ?_
    refine st_aload_n (pc := 13) dJ0_indexOf_7cf53_13 rfl ?_
    obtain ⟨hSq3, hq⟩ := mh_oi hq
    obtain ⟨q3, e3, hq⟩ := mh_ob hq
    refine st_invT (pc := 14) (vs := []) (rest := [.int l2, .int l1, .ref v2]) (st2 := [.int q3.1, .int l2, .int l1, .ref v2]) dJ0_indexOf_7cf53_14 okJ0_length_8abf5 hSq3 wd_748 wd_749 wd_750 pdJ0_length_8abf5 rfl rfl rfl rfl (Nat.le_trans (by decide) hd) (Nat.le_of_ble_eq_true rfl) (T_J0_length_8abf5 (Nat.le_refl _) e3) rfl ?_
    obtain ⟨q4, e4, hq⟩ := mh_ob hq
    refine st_invS (pc := 17) (Y := mJ1_indexOf_4cfef) (vs := [.ref v2, .int l1, .int l2, .int q3.1]) (rest := []) (st2 := [.int q4.1]) dJ0_indexOf_7cf53_17 okJ1_indexOf_4cfef wd_756 wd_757 pdJ1_indexOf_4cfef rfl rfl rfl rfl (Nat.le_trans (by decide) hd) (Nat.le_of_ble_eq_true rfl) (T_J1_indexOf_4cfef (Nat.le_refl _) e4) rfl ?_
    refine st_goto (pc := 20) (tgt := 36) dJ0_indexOf_7cf53_20 (by decide) ?_
    exact bd_iret (pc := 36) hq dJ0_indexOf_7cf53_36 rfl
-- java/lang/String.indexOf(I)I
theorem dJ0_indexOf_0f7a4_0 : decode cJ0_indexOf_0f7a4 0 = .ok (.aload_n 0, 1) := by decide +kernel
theorem dJ0_indexOf_0f7a4_1 : decode cJ0_indexOf_0f7a4 1 = .ok (.iload_n 1, 1) := by decide +kernel
theorem dJ0_indexOf_0f7a4_2 : decode cJ0_indexOf_0f7a4 2 = .ok (.iconst 0, 1) := by decide +kernel
theorem dJ0_indexOf_0f7a4_3 : decode cJ0_indexOf_0f7a4 3 = .ok (.invokevirtual 633, 3) := by decide +kernel
theorem dJ0_indexOf_0f7a4_6 : decode cJ0_indexOf_0f7a4 6 = .ok (.ireturn, 1) := by decide +kernel
def D_J0_indexOf_0f7a4 (N : Nat) (h : mh_H) (l0 : Nat) (l1 : Int32) : Option (Int32 × mh_H) :=
  kS l0 <|
  (D_J0_indexOf_7cf53 N h l0 l1 (0 : Int32)).bind fun q1 =>
  some (q1.1, q1.2)
set_option maxHeartbeats 4000000 in
set_option maxRecDepth 100000 in
theorem T_J0_indexOf_0f7a4 {P : mh_E → Prop} {N d : Nat} (hd : 4 ≤ d) {z : (Int32 × mh_H)} {h : mh_H} {l0 : Nat} {l1 : Int32} (hq : D_J0_indexOf_0f7a4 N h l0 l1 = some z) : mh_go P d mJ0_indexOf_0f7a4 0 [some (.ref l0), some (.int l1)] [] h (some (.int z.1)) z.2 := by
  unfold D_J0_indexOf_0f7a4 at hq
  refine st_aload_n (pc := 0) dJ0_indexOf_0f7a4_0 rfl ?_
  refine st_iload_n (pc := 1) dJ0_indexOf_0f7a4_1 rfl ?_
  refine st_iconst (pc := 2) (v := (0 : Int32)) dJ0_indexOf_0f7a4_2 rfl ?_
  obtain ⟨hSq1, hq⟩ := mh_oi hq
  obtain ⟨q1, e1, hq⟩ := mh_ob hq
  refine st_invT (pc := 3) (vs := [.int l1, .int (0 : Int32)]) (rest := []) (st2 := [.int q1.1]) dJ0_indexOf_0f7a4_3 okJ0_indexOf_7cf53 hSq1 wd_738 wd_739 wd_740 pdJ0_indexOf_7cf53 rfl rfl rfl rfl (Nat.le_trans (by decide) hd) (Nat.le_of_ble_eq_true rfl) (T_J0_indexOf_7cf53 (Nat.le_refl _) e1) rfl ?_
  exact bd_iret (pc := 6) hq dJ0_indexOf_0f7a4_6 rfl
-- HoleWater$Reader.one(I)V
theorem dX5_one_94 : decode cX5_one 94 = .ok (.istore_n 2, 1) := by decide +kernel
theorem dX5_one_95 : decode cX5_one 95 = .ok (.iload_n 2, 1) := by decide +kernel
theorem dX5_one_96 : decode cX5_one 96 = .ok (.ifCond .ge 9, 3) := by decide +kernel
theorem dX5_one_105 : decode cX5_one 105 = .ok (.aload_n 0, 1) := by decide +kernel
theorem dX5_one_106 : decode cX5_one 106 = .ok (.dup, 1) := by decide +kernel
theorem dX5_one_107 : decode cX5_one 107 = .ok (.getfield 43, 3) := by decide +kernel
theorem dX5_one_110 : decode cX5_one 110 = .ok (.iconst 1, 1) := by decide +kernel
theorem dX5_one_111 : decode cX5_one 111 = .ok (.iadd, 1) := by decide +kernel
theorem dX5_one_112 : decode cX5_one 112 = .ok (.putfield 43, 3) := by decide +kernel
theorem dX5_one_115 : decode cX5_one 115 = .ok (.aload_n 0, 1) := by decide +kernel
theorem dX5_one_116 : decode cX5_one 116 = .ok (.getfield 20, 3) := by decide +kernel
theorem dX5_one_119 : decode cX5_one 119 = .ok (.sipush 1000, 3) := by decide +kernel
theorem dX5_one_122 : decode cX5_one 122 = .ok (.iload_n 2, 1) := by decide +kernel
theorem dX5_one_123 : decode cX5_one 123 = .ok (.iadd, 1) := by decide +kernel
theorem dX5_one_124 : decode cX5_one 124 = .ok (.invokevirtual 60, 3) := by decide +kernel
theorem dX5_one_127 : decode cX5_one 127 = .ok (.pop, 1) := by decide +kernel
theorem dX5_one_128 : decode cX5_one 128 = .ok (.return_, 1) := by decide +kernel
theorem dX5_one_99 : decode cX5_one 99 = .ok (.aload_n 0, 1) := by decide +kernel
theorem dX5_one_100 : decode cX5_one 100 = .ok (.iconst 1, 1) := by decide +kernel
theorem dX5_one_101 : decode cX5_one 101 = .ok (.putfield 46, 3) := by decide +kernel
theorem dX5_one_104 : decode cX5_one 104 = .ok (.return_, 1) := by decide +kernel
theorem dX5_one_71 : decode cX5_one 71 = .ok (.aload_n 0, 1) := by decide +kernel
theorem dX5_one_72 : decode cX5_one 72 = .ok (.invokevirtual 77, 3) := by decide +kernel
theorem dX5_one_75 : decode cX5_one 75 = .ok (.ifCond .ge 7, 3) := by decide +kernel
theorem dX5_one_82 : decode cX5_one 82 = .ok (.aload_n 0, 1) := by decide +kernel
theorem dX5_one_83 : decode cX5_one 83 = .ok (.getfield 39, 3) := by decide +kernel
theorem dX5_one_86 : decode cX5_one 86 = .ok (.aload_n 0, 1) := by decide +kernel
theorem dX5_one_87 : decode cX5_one 87 = .ok (.invokevirtual 77, 3) := by decide +kernel
theorem dX5_one_90 : decode cX5_one 90 = .ok (.i2c, 1) := by decide +kernel
theorem dX5_one_91 : decode cX5_one 91 = .ok (.invokevirtual 93, 3) := by decide +kernel
theorem dX5_one_78 : decode cX5_one 78 = .ok (.iconst (-1), 1) := by decide +kernel
theorem dX5_one_79 : decode cX5_one 79 = .ok (.goto 15, 3) := by decide +kernel
theorem dX5_one_0 : decode cX5_one 0 = .ok (.aload_n 0, 1) := by decide +kernel
theorem dX5_one_1 : decode cX5_one 1 = .ok (.getfield 46, 3) := by decide +kernel
theorem dX5_one_4 : decode cX5_one 4 = .ok (.ifCond .eq 4, 3) := by decide +kernel
theorem dX5_one_8 : decode cX5_one 8 = .ok (.aload_n 0, 1) := by decide +kernel
theorem dX5_one_9 : decode cX5_one 9 = .ok (.invokevirtual 77, 3) := by decide +kernel
theorem dX5_one_12 : decode cX5_one 12 = .ok (.invokestatic 87, 3) := by decide +kernel
theorem dX5_one_15 : decode cX5_one 15 = .ok (.ifCond .eq 16, 3) := by decide +kernel
theorem dX5_one_31 : decode cX5_one 31 = .ok (.iload_n 1, 1) := by decide +kernel
theorem dX5_one_32 : decode cX5_one 32 = .ok (.iconst 4, 1) := by decide +kernel
theorem dX5_one_33 : decode cX5_one 33 = .ok (.if_icmp .ge 38, 3) := by decide +kernel
theorem dX5_one_36 : decode cX5_one 36 = .ok (.aload_n 0, 1) := by decide +kernel
theorem dX5_one_37 : decode cX5_one 37 = .ok (.bipush 40, 2) := by decide +kernel
theorem dX5_one_39 : decode cX5_one 39 = .ok (.invokevirtual 64, 3) := by decide +kernel
theorem dX5_one_42 : decode cX5_one 42 = .ok (.ifCond .eq 29, 3) := by decide +kernel
theorem dX5_one_45 : decode cX5_one 45 = .ok (.aload_n 0, 1) := by decide +kernel
theorem dX5_one_46 : decode cX5_one 46 = .ok (.iload_n 1, 1) := by decide +kernel
theorem dX5_one_47 : decode cX5_one 47 = .ok (.iconst 1, 1) := by decide +kernel
theorem dX5_one_48 : decode cX5_one 48 = .ok (.iadd, 1) := by decide +kernel
theorem dX5_one_49 : decode cX5_one 49 = .ok (.invokevirtual 54, 3) := by decide +kernel
theorem dX5_one_52 : decode cX5_one 52 = .ok (.aload_n 0, 1) := by decide +kernel
theorem dX5_one_53 : decode cX5_one 53 = .ok (.aload_n 0, 1) := by decide +kernel
theorem dX5_one_54 : decode cX5_one 54 = .ok (.bipush 41, 2) := by decide +kernel
theorem dX5_one_56 : decode cX5_one 56 = .ok (.invokevirtual 64, 3) := by decide +kernel
theorem dX5_one_59 : decode cX5_one 59 = .ok (.ifCond .ne 7, 3) := by decide +kernel
theorem dX5_one_62 : decode cX5_one 62 = .ok (.iconst 1, 1) := by decide +kernel
theorem dX5_one_63 : decode cX5_one 63 = .ok (.goto 4, 3) := by decide +kernel
theorem dX5_one_67 : decode cX5_one 67 = .ok (.putfield 46, 3) := by decide +kernel
theorem dX5_one_70 : decode cX5_one 70 = .ok (.return_, 1) := by decide +kernel
theorem dX5_one_66 : decode cX5_one 66 = .ok (.iconst 0, 1) := by decide +kernel
theorem dX5_one_18 : decode cX5_one 18 = .ok (.aload_n 0, 1) := by decide +kernel
theorem dX5_one_19 : decode cX5_one 19 = .ok (.getfield 20, 3) := by decide +kernel
theorem dX5_one_22 : decode cX5_one 22 = .ok (.aload_n 0, 1) := by decide +kernel
theorem dX5_one_23 : decode cX5_one 23 = .ok (.invokevirtual 90, 3) := by decide +kernel
theorem dX5_one_26 : decode cX5_one 26 = .ok (.invokevirtual 60, 3) := by decide +kernel
theorem dX5_one_29 : decode cX5_one 29 = .ok (.pop, 1) := by decide +kernel
theorem dX5_one_30 : decode cX5_one 30 = .ok (.return_, 1) := by decide +kernel
theorem dX5_one_7 : decode cX5_one 7 = .ok (.return_, 1) := by decide +kernel
def D_X5_one_94 (N : Nat) (kB : mh_H → Nat → Int32 → Option mh_H) (h : mh_H) (l0 : Nat) (s0 : Int32) : Option mh_H :=
  if 0 ≤ s0 then ((gI h 5 l0 7).bind fun v1 =>
  (pI h 5 l0 7 (v1 + (1 : Int32))).bind fun h2 =>
  (gR h2 5 l0 1).bind fun v3 =>
  kO h2 6 v3 <|
  (D_X6_add N h2 v3 ((1000 : Int32) + s0)).bind fun q4 =>
  some q4.2)
  else ((pB h 5 l0 8 (1 : Int32)).bind fun h1 =>
  some h1)
set_option maxHeartbeats 4000000 in
set_option maxRecDepth 100000 in
theorem T_X5_one_94 {P : mh_E → Prop} {N d : Nat} (hd : 5 ≤ d) {kB : mh_H → Nat → Int32 → Option mh_H} {dB : Nat} (hdB : dB + 1 ≤ d) (hB : ∀ (h : mh_H) (x0 : Nat) (x1 : Int32) (z : mh_H), kB h x0 x1 = some z → mh_go P dB mX5_sum 0 [some (.ref x0), some (.int x1), none, none] [] h none z) {z : mh_H} {h : mh_H} {l0 : Nat} {s0 : Int32} (hq : D_X5_one_94 N kB h l0 s0 = some z) : mh_go P d mX5_one 94 [some (.ref l0), none, none] [.int s0] h none z := by
  unfold D_X5_one_94 at hq
  refine st_istore_n (pc := 94) (lv' := [some (.ref l0), none, some (.int s0)]) dX5_one_94 rfl (by decide) rfl ?_
  refine st_iload_n (pc := 95) dX5_one_95 rfl ?_
  refine bd_if_ge (pc := 96) (tgt := 105) hq dX5_one_96 (by decide) (fun _ hq => ?_) (fun _ hq => ?_)
  ·
    refine st_aload_n (pc := 105) dX5_one_105 rfl ?_
    refine st_dup (pc := 106) dX5_one_106 rfl ?_
    refine bd_geti (pc := 107) hq dX5_one_107 fl_5_43_5 rfl (fun v1 hq => ?_)
    refine st_iconst (pc := 110) (v := (1 : Int32)) dX5_one_110 rfl ?_
    refine st_iadd (pc := 111) dX5_one_111 ?_
    refine bd_puti (pc := 112) hq dX5_one_112 fl_5_43_5 (Or.inl rfl) rfl (fun h2 hq => ?_)
    refine st_aload_n (pc := 115) dX5_one_115 rfl ?_
    refine bd_getr (pc := 116) hq dX5_one_116 fl_5_20_5 rfl (fun v3 hq => ?_)
    refine st_sipush (pc := 119) (v := (1000 : Int32)) dX5_one_119 (by decide) ?_
    refine st_iload_n (pc := 122) dX5_one_122 rfl ?_
    refine st_iadd (pc := 123) dX5_one_123 ?_
    obtain ⟨⟨hbq4, hkq4⟩, hq⟩ := mh_oi hq
    obtain ⟨q4, e4, hq⟩ := mh_ob hq
    refine st_invV (pc := 124) (ci := 6) (vs := [.int ((1000 : Int32) + s0)]) (rest := []) (st2 := [.int q4.1]) dX5_one_124 okX6_add (by decide) hkq4 hbq4 wd_729 wd_688 wd_689 pdX6_add rfl rfl rfl rfl (Nat.le_trans (by decide) hd) (Nat.le_of_ble_eq_true rfl) (T_X6_add (Nat.le_refl _) e4) rfl ?_
    refine st_pop (pc := 127) dX5_one_127 rfl ?_
    exact bd_vret (pc := 128) hq dX5_one_128 rfl
  ·
    refine st_aload_n (pc := 99) dX5_one_99 rfl ?_
    refine st_iconst (pc := 100) (v := (1 : Int32)) dX5_one_100 rfl ?_
    refine bd_putb (pc := 101) hq dX5_one_101 fl_5_46_5 (Or.inl rfl) rfl (fun h1 hq => ?_)
    exact bd_vret (pc := 104) hq dX5_one_104 rfl
def D_X5_one_71 (N : Nat) (kB : mh_H → Nat → Int32 → Option mh_H) (h : mh_H) (l0 : Nat) : Option mh_H :=
  kO h 5 l0 <|
  (D_X5_next N h l0).bind fun q1 =>
  if 0 ≤ q1.1 then ((gR q1.2 5 l0 6).bind fun v2 =>
  kO q1.2 5 l0 <|
  (D_X5_next N q1.2 l0).bind fun q3 =>
  kS v2 <|
  (D_J0_indexOf_0f7a4 N q3.2 v2 ((q3.1.toUInt32 % 65536).toInt32)).bind fun q4 =>
  D_X5_one_94 N kB q4.2 l0 q4.1)
  else (D_X5_one_94 N kB q1.2 l0 (-1 : Int32))
set_option maxHeartbeats 4000000 in
set_option maxRecDepth 100000 in
theorem T_X5_one_71 {P : mh_E → Prop} {N d : Nat} (hd : 5 ≤ d) {kB : mh_H → Nat → Int32 → Option mh_H} {dB : Nat} (hdB : dB + 1 ≤ d) (hB : ∀ (h : mh_H) (x0 : Nat) (x1 : Int32) (z : mh_H), kB h x0 x1 = some z → mh_go P dB mX5_sum 0 [some (.ref x0), some (.int x1), none, none] [] h none z) {z : mh_H} {h : mh_H} {l0 : Nat} (hq : D_X5_one_71 N kB h l0 = some z) : mh_go P d mX5_one 71 [some (.ref l0), none, none] [] h none z := by
  unfold D_X5_one_71 at hq
  refine st_aload_n (pc := 71) dX5_one_71 rfl ?_
  obtain ⟨⟨hbq1, hkq1⟩, hq⟩ := mh_oi hq
  obtain ⟨q1, e1, hq⟩ := mh_ob hq
  refine st_invV (pc := 72) (ci := 5) (vs := []) (rest := []) (st2 := [.int q1.1]) dX5_one_72 okX5_next (by decide) hkq1 hbq1 wd_718 wd_720 wp_18 pdX5_next rfl rfl rfl rfl (Nat.le_trans (by decide) hd) (Nat.le_of_ble_eq_true rfl) (T_X5_next (Nat.le_refl _) e1) rfl ?_
  refine bd_if_ge (pc := 75) (tgt := 82) hq dX5_one_75 (by decide) (fun _ hq => ?_) (fun _ hq => ?_)
  ·
    refine st_aload_n (pc := 82) dX5_one_82 rfl ?_
    refine bd_getr (pc := 83) hq dX5_one_83 fl_5_39_5 rfl (fun v2 hq => ?_)
    refine st_aload_n (pc := 86) dX5_one_86 rfl ?_
    obtain ⟨⟨hbq3, hkq3⟩, hq⟩ := mh_oi hq
    obtain ⟨q3, e3, hq⟩ := mh_ob hq
    refine st_invV (pc := 87) (ci := 5) (vs := []) (rest := [.ref v2]) (st2 := [.int q3.1, .ref v2]) dX5_one_87 okX5_next (by decide) hkq3 hbq3 wd_718 wd_720 wp_18 pdX5_next rfl rfl rfl rfl (Nat.le_trans (by decide) hd) (Nat.le_of_ble_eq_true rfl) (T_X5_next (Nat.le_refl _) e3) rfl ?_
    refine st_i2c (pc := 90) dX5_one_90 ?_
    obtain ⟨hSq4, hq⟩ := mh_oi hq
    obtain ⟨q4, e4, hq⟩ := mh_ob hq
    refine st_invT (pc := 91) (vs := [.int ((q3.1.toUInt32 % 65536).toInt32)]) (rest := []) (st2 := [.int q4.1]) dX5_one_91 okJ0_indexOf_0f7a4 hSq4 wd_734 wd_735 wd_736 pdJ0_indexOf_0f7a4 rfl rfl rfl rfl (Nat.le_trans (by decide) hd) (Nat.le_of_ble_eq_true rfl) (T_J0_indexOf_0f7a4 (Nat.le_refl _) e4) rfl ?_
    exact T_X5_one_94 hd hdB hB hq
  ·
    refine st_iconst (pc := 78) (v := (-1 : Int32)) dX5_one_78 rfl ?_
    refine st_goto (pc := 79) (tgt := 94) dX5_one_79 (by decide) ?_
    exact T_X5_one_94 hd hdB hB hq
def D_X5_one (N : Nat) (kB : mh_H → Nat → Int32 → Option mh_H) (h : mh_H) (l0 : Nat) (l1 : Int32) : Option mh_H :=
  (gI h 5 l0 8).bind fun v1 =>
  if v1 = 0 then (kO h 5 l0 <|
  (D_X5_next N h l0).bind fun q2 =>
  (D_X5_isDigit N q2.2 q2.1).bind fun q3 =>
  if q3.1 = 0 then (if (4 : Int32) ≤ l1 then (D_X5_one_71 N kB q3.2 l0)
  else (kO q3.2 5 l0 <|
  (D_X5_take N q3.2 l0 (40 : Int32)).bind fun q4 =>
  if q4.1 = 0 then (D_X5_one_71 N kB q4.2 l0)
  else (kO q4.2 5 l0 <|
  (kB q4.2 l0 (l1 + (1 : Int32))).bind fun q5 =>
  kO q5 5 l0 <|
  (D_X5_take N q5 l0 (41 : Int32)).bind fun q6 =>
  if q6.1 = 0 then ((pB q6.2 5 l0 8 (1 : Int32)).bind fun h7 =>
  some h7)
  else ((pB q6.2 5 l0 8 (0 : Int32)).bind fun h7 =>
  some h7))))
  else ((gR q3.2 5 l0 1).bind fun v4 =>
  kO q3.2 5 l0 <|
  (D_X5_number N q3.2 l0).bind fun q5 =>
  kO q5.2 6 v4 <|
  (D_X6_add N q5.2 v4 q5.1).bind fun q6 =>
  some q6.2))
  else (some h)
set_option maxHeartbeats 4000000 in
set_option maxRecDepth 100000 in
theorem T_X5_one {P : mh_E → Prop} {N d : Nat} (hd : 5 ≤ d) {kB : mh_H → Nat → Int32 → Option mh_H} {dB : Nat} (hdB : dB + 1 ≤ d) (hB : ∀ (h : mh_H) (x0 : Nat) (x1 : Int32) (z : mh_H), kB h x0 x1 = some z → mh_go P dB mX5_sum 0 [some (.ref x0), some (.int x1), none, none] [] h none z) {z : mh_H} {h : mh_H} {l0 : Nat} {l1 : Int32} (hq : D_X5_one N kB h l0 l1 = some z) : mh_go P d mX5_one 0 [some (.ref l0), some (.int l1), none] [] h none z := by
  unfold D_X5_one at hq
  refine st_aload_n (pc := 0) dX5_one_0 rfl ?_
  refine bd_geti (pc := 1) hq dX5_one_1 fl_5_46_5 rfl (fun v1 hq => ?_)
  refine bd_if_eq (pc := 4) (tgt := 8) hq dX5_one_4 (by decide) (fun _ hq => ?_) (fun _ hq => ?_)
  ·
    refine st_aload_n (pc := 8) dX5_one_8 rfl ?_
    obtain ⟨⟨hbq2, hkq2⟩, hq⟩ := mh_oi hq
    obtain ⟨q2, e2, hq⟩ := mh_ob hq
    refine st_invV (pc := 9) (ci := 5) (vs := []) (rest := []) (st2 := [.int q2.1]) dX5_one_9 okX5_next (by decide) hkq2 hbq2 wd_718 wd_720 wp_18 pdX5_next rfl rfl rfl rfl (Nat.le_trans (by decide) hd) (Nat.le_of_ble_eq_true rfl) (T_X5_next (Nat.le_refl _) e2) rfl ?_
    obtain ⟨q3, e3, hq⟩ := mh_ob hq
    refine st_invS (pc := 12) (Y := mX5_isDigit) (vs := [.int q2.1]) (rest := []) (st2 := [.int q3.1]) dX5_one_12 okX5_isDigit wd_722 wd_723 pdX5_isDigit rfl rfl rfl rfl (Nat.le_trans (by decide) hd) (Nat.le_of_ble_eq_true rfl) (T_X5_isDigit (Nat.le_refl _) e3) rfl ?_
    refine bd_if_eq (pc := 15) (tgt := 31) hq dX5_one_15 (by decide) (fun _ hq => ?_) (fun _ hq => ?_)
    ·
      refine st_iload_n (pc := 31) dX5_one_31 rfl ?_
      refine st_iconst (pc := 32) (v := (4 : Int32)) dX5_one_32 rfl ?_
      refine bd_icmp_ge (pc := 33) (tgt := 71) hq dX5_one_33 (by decide) (fun _ hq => ?_) (fun _ hq => ?_)
      ·
        refine st_lesS (lv' := [some (.ref l0), none, none]) ⟨Or.inr rfl, Or.inl rfl, Or.inr rfl, trivial⟩ ?_
        exact T_X5_one_71 hd hdB hB hq
      ·
        refine st_aload_n (pc := 36) dX5_one_36 rfl ?_
        refine st_bipush (pc := 37) (v := (40 : Int32)) dX5_one_37 (by decide) ?_
        obtain ⟨⟨hbq4, hkq4⟩, hq⟩ := mh_oi hq
        obtain ⟨q4, e4, hq⟩ := mh_ob hq
        refine st_invV (pc := 39) (ci := 5) (vs := [.int (40 : Int32)]) (rest := []) (st2 := [.int q4.1]) dX5_one_39 okX5_take (by decide) hkq4 hbq4 wd_730 wd_732 wp_20 pdX5_take rfl rfl rfl rfl (Nat.le_trans (by decide) hd) (Nat.le_of_ble_eq_true rfl) (T_X5_take (Nat.le_refl _) e4) rfl ?_
        refine bd_if_eq (pc := 42) (tgt := 71) hq dX5_one_42 (by decide) (fun _ hq => ?_) (fun _ hq => ?_)
        ·
          refine st_lesS (lv' := [some (.ref l0), none, none]) ⟨Or.inr rfl, Or.inl rfl, Or.inr rfl, trivial⟩ ?_
          exact T_X5_one_71 hd hdB hB hq
        ·
          refine st_aload_n (pc := 45) dX5_one_45 rfl ?_
          refine st_iload_n (pc := 46) dX5_one_46 rfl ?_
          refine st_iconst (pc := 47) (v := (1 : Int32)) dX5_one_47 rfl ?_
          refine st_iadd (pc := 48) dX5_one_48 ?_
          obtain ⟨⟨hbq5, hkq5⟩, hq⟩ := mh_oi hq
          obtain ⟨q5, e5, hq⟩ := mh_ob hq
          refine st_invV (pc := 49) (ci := 5) (vs := [.int (l1 + (1 : Int32))]) (rest := []) (st2 := []) dX5_one_49 okX5_sum (by decide) hkq5 hbq5 wd_706 wd_708 wp_15 pdX5_sum rfl rfl rfl rfl (by omega) (Nat.le_of_ble_eq_true rfl) (hB _ _ _ _ e5) rfl ?_
          refine st_aload_n (pc := 52) dX5_one_52 rfl ?_
          refine st_aload_n (pc := 53) dX5_one_53 rfl ?_
          refine st_bipush (pc := 54) (v := (41 : Int32)) dX5_one_54 (by decide) ?_
          obtain ⟨⟨hbq6, hkq6⟩, hq⟩ := mh_oi hq
          obtain ⟨q6, e6, hq⟩ := mh_ob hq
          refine st_invV (pc := 56) (ci := 5) (vs := [.int (41 : Int32)]) (rest := [.ref l0]) (st2 := [.int q6.1, .ref l0]) dX5_one_56 okX5_take (by decide) hkq6 hbq6 wd_730 wd_732 wp_20 pdX5_take rfl rfl rfl rfl (Nat.le_trans (by decide) hd) (Nat.le_of_ble_eq_true rfl) (T_X5_take (Nat.le_refl _) e6) rfl ?_
          refine bd_if_ne (pc := 59) (tgt := 66) hq dX5_one_59 (by decide) (fun _ hq => ?_) (fun _ hq => ?_)
          ·
            refine st_iconst (pc := 62) (v := (1 : Int32)) dX5_one_62 rfl ?_
            refine st_goto (pc := 63) (tgt := 67) dX5_one_63 (by decide) ?_
            refine bd_putb (pc := 67) hq dX5_one_67 fl_5_46_5 (Or.inl rfl) rfl (fun h7 hq => ?_)
            exact bd_vret (pc := 70) hq dX5_one_70 rfl
          ·
            refine st_iconst (pc := 66) (v := (0 : Int32)) dX5_one_66 rfl ?_
            refine bd_putb (pc := 67) hq dX5_one_67 fl_5_46_5 (Or.inl rfl) rfl (fun h7 hq => ?_)
            exact bd_vret (pc := 70) hq dX5_one_70 rfl
    ·
      refine st_aload_n (pc := 18) dX5_one_18 rfl ?_
      refine bd_getr (pc := 19) hq dX5_one_19 fl_5_20_5 rfl (fun v4 hq => ?_)
      refine st_aload_n (pc := 22) dX5_one_22 rfl ?_
      obtain ⟨⟨hbq5, hkq5⟩, hq⟩ := mh_oi hq
      obtain ⟨q5, e5, hq⟩ := mh_ob hq
      refine st_invV (pc := 23) (ci := 5) (vs := []) (rest := [.ref v4]) (st2 := [.int q5.1, .ref v4]) dX5_one_23 okX5_number (by decide) hkq5 hbq5 wd_725 wd_727 wp_19 pdX5_number rfl rfl rfl rfl (Nat.le_trans (by decide) hd) (Nat.le_of_ble_eq_true rfl) (T_X5_number (Nat.le_refl _) e5) rfl ?_
      obtain ⟨⟨hbq6, hkq6⟩, hq⟩ := mh_oi hq
      obtain ⟨q6, e6, hq⟩ := mh_ob hq
      refine st_invV (pc := 26) (ci := 6) (vs := [.int q5.1]) (rest := []) (st2 := [.int q6.1]) dX5_one_26 okX6_add (by decide) hkq6 hbq6 wd_729 wd_688 wd_689 pdX6_add rfl rfl rfl rfl (Nat.le_trans (by decide) hd) (Nat.le_of_ble_eq_true rfl) (T_X6_add (Nat.le_refl _) e6) rfl ?_
      refine st_pop (pc := 29) dX5_one_29 rfl ?_
      exact bd_vret (pc := 30) hq dX5_one_30 rfl
  ·
    exact bd_vret (pc := 7) hq dX5_one_7 rfl
-- HoleWater$Reader.term(I)V
theorem dX5_term_42 : decode cX5_term 42 = .ok (.istore_n 3, 1) := by decide +kernel
theorem dX5_term_43 : decode cX5_term 43 = .ok (.iload_n 3, 1) := by decide +kernel
theorem dX5_term_44 : decode cX5_term 44 = .ok (.ifCond .ne 4, 3) := by decide +kernel
theorem dX5_term_47 : decode cX5_term 47 = .ok (.return_, 1) := by decide +kernel
theorem dX5_term_48 : decode cX5_term 48 = .ok (.aload_n 0, 1) := by decide +kernel
theorem dX5_term_49 : decode cX5_term 49 = .ok (.iload_n 1, 1) := by decide +kernel
theorem dX5_term_50 : decode cX5_term 50 = .ok (.invokevirtual 84, 3) := by decide +kernel
theorem dX5_term_53 : decode cX5_term 53 = .ok (.aload_n 0, 1) := by decide +kernel
theorem dX5_term_54 : decode cX5_term 54 = .ok (.getfield 20, 3) := by decide +kernel
theorem dX5_term_57 : decode cX5_term 57 = .ok (.iload_n 3, 1) := by decide +kernel
theorem dX5_term_58 : decode cX5_term 58 = .ok (.ineg, 1) := by decide +kernel
theorem dX5_term_59 : decode cX5_term 59 = .ok (.invokevirtual 60, 3) := by decide +kernel
theorem dX5_term_62 : decode cX5_term 62 = .ok (.pop, 1) := by decide +kernel
theorem dX5_term_63 : decode cX5_term 63 = .ok (.iinc 2 1, 3) := by decide +kernel
theorem dX5_term_66 : decode cX5_term 66 = .ok (.goto (-59), 3) := by decide +kernel
theorem dX5_term_7 : decode cX5_term 7 = .ok (.iload_n 2, 1) := by decide +kernel
theorem dX5_term_8 : decode cX5_term 8 = .ok (.bipush 60, 2) := by decide +kernel
theorem dX5_term_10 : decode cX5_term 10 = .ok (.if_icmp .ge 59, 3) := by decide +kernel
theorem dX5_term_69 : decode cX5_term 69 = .ok (.return_, 1) := by decide +kernel
theorem dX5_term_13 : decode cX5_term 13 = .ok (.aload_n 0, 1) := by decide +kernel
theorem dX5_term_14 : decode cX5_term 14 = .ok (.bipush 42, 2) := by decide +kernel
theorem dX5_term_16 : decode cX5_term 16 = .ok (.invokevirtual 64, 3) := by decide +kernel
theorem dX5_term_19 : decode cX5_term 19 = .ok (.ifCond .eq 8, 3) := by decide +kernel
theorem dX5_term_27 : decode cX5_term 27 = .ok (.aload_n 0, 1) := by decide +kernel
theorem dX5_term_28 : decode cX5_term 28 = .ok (.bipush 47, 2) := by decide +kernel
theorem dX5_term_30 : decode cX5_term 30 = .ok (.invokevirtual 64, 3) := by decide +kernel
theorem dX5_term_33 : decode cX5_term 33 = .ok (.ifCond .eq 8, 3) := by decide +kernel
theorem dX5_term_41 : decode cX5_term 41 = .ok (.iconst 0, 1) := by decide +kernel
theorem dX5_term_36 : decode cX5_term 36 = .ok (.bipush 47, 2) := by decide +kernel
theorem dX5_term_38 : decode cX5_term 38 = .ok (.goto 4, 3) := by decide +kernel
theorem dX5_term_22 : decode cX5_term 22 = .ok (.bipush 42, 2) := by decide +kernel
theorem dX5_term_24 : decode cX5_term 24 = .ok (.goto 18, 3) := by decide +kernel
theorem dX5_term_0 : decode cX5_term 0 = .ok (.aload_n 0, 1) := by decide +kernel
theorem dX5_term_1 : decode cX5_term 1 = .ok (.iload_n 1, 1) := by decide +kernel
theorem dX5_term_2 : decode cX5_term 2 = .ok (.invokevirtual 84, 3) := by decide +kernel
theorem dX5_term_5 : decode cX5_term 5 = .ok (.iconst 0, 1) := by decide +kernel
theorem dX5_term_6 : decode cX5_term 6 = .ok (.istore_n 2, 1) := by decide +kernel
def D_X5_term_42 (N : Nat) (kB : mh_H → Nat → Int32 → Option mh_H) (k7 : mh_H → Nat → Int32 → Int32 → Option mh_H) (h : mh_H) (l0 : Nat) (l1 : Int32) (l2 : Int32) (s0 : Int32) : Option mh_H :=
  if s0 = 0 then (some h)
  else (kO h 5 l0 <|
  (D_X5_one N kB h l0 l1).bind fun q1 =>
  (gR q1 5 l0 1).bind fun v2 =>
  kO q1 6 v2 <|
  (D_X6_add N q1 v2 (-s0)).bind fun q3 =>
  k7 q3.2 l0 l1 (l2 + Int32.ofInt (1)))
set_option maxHeartbeats 4000000 in
set_option maxRecDepth 100000 in
theorem T_X5_term_42 {P : mh_E → Prop} {N d : Nat} (hd : 6 ≤ d) {kB : mh_H → Nat → Int32 → Option mh_H} {dB : Nat} (hdB : dB + 2 ≤ d) (hB : ∀ (h : mh_H) (x0 : Nat) (x1 : Int32) (z : mh_H), kB h x0 x1 = some z → mh_go P dB mX5_sum 0 [some (.ref x0), some (.int x1), none, none] [] h none z) {z : mh_H} {k7 : mh_H → Nat → Int32 → Int32 → Option mh_H} (hk7 : ∀ (h : mh_H) (l0 : Nat) (l1 : Int32) (l2 : Int32), k7 h l0 l1 l2 = some z → mh_go P d mX5_term 7 [some (.ref l0), some (.int l1), some (.int l2), none] [] h none z) {h : mh_H} {l0 : Nat} {l1 : Int32} {l2 : Int32} {s0 : Int32} (hq : D_X5_term_42 N kB k7 h l0 l1 l2 s0 = some z) : mh_go P d mX5_term 42 [some (.ref l0), some (.int l1), some (.int l2), none] [.int s0] h none z := by
  unfold D_X5_term_42 at hq
  refine st_istore_n (pc := 42) (lv' := [some (.ref l0), some (.int l1), some (.int l2), some (.int s0)]) dX5_term_42 rfl (by decide) rfl ?_
  refine st_iload_n (pc := 43) dX5_term_43 rfl ?_
  refine bd_if_ne (pc := 44) (tgt := 48) hq dX5_term_44 (by decide) (fun _ hq => ?_) (fun _ hq => ?_)
  ·
    exact bd_vret (pc := 47) hq dX5_term_47 rfl
  ·
    refine st_aload_n (pc := 48) dX5_term_48 rfl ?_
    refine st_iload_n (pc := 49) dX5_term_49 rfl ?_
    obtain ⟨⟨hbq1, hkq1⟩, hq⟩ := mh_oi hq
    obtain ⟨q1, e1, hq⟩ := mh_ob hq
    refine st_invV (pc := 50) (ci := 5) (vs := [.int l1]) (rest := []) (st2 := []) dX5_term_50 okX5_one (by decide) hkq1 hbq1 wd_714 wd_716 wp_17 pdX5_one rfl rfl rfl rfl (by omega) (Nat.le_of_ble_eq_true rfl) (T_X5_one (d := d - 1) (by omega) (by omega) hB e1) rfl ?_
    refine st_aload_n (pc := 53) dX5_term_53 rfl ?_
    refine bd_getr (pc := 54) hq dX5_term_54 fl_5_20_5 rfl (fun v2 hq => ?_)
    refine st_iload_n (pc := 57) dX5_term_57 rfl ?_
    refine st_ineg (pc := 58) dX5_term_58 ?_
    obtain ⟨⟨hbq3, hkq3⟩, hq⟩ := mh_oi hq
    obtain ⟨q3, e3, hq⟩ := mh_ob hq
    refine st_invV (pc := 59) (ci := 6) (vs := [.int (-s0)]) (rest := []) (st2 := [.int q3.1]) dX5_term_59 okX6_add (by decide) hkq3 hbq3 wd_729 wd_688 wd_689 pdX6_add rfl rfl rfl rfl (Nat.le_trans (by decide) hd) (Nat.le_of_ble_eq_true rfl) (T_X6_add (Nat.le_refl _) e3) rfl ?_
    refine st_pop (pc := 62) dX5_term_62 rfl ?_
    refine st_iinc (pc := 63) (lv' := [some (.ref l0), some (.int l1), some (.int (l2 + Int32.ofInt (1))), some (.int s0)]) dX5_term_63 rfl rfl (by decide) rfl ?_
    refine st_goto (pc := 66) (tgt := 7) dX5_term_66 (by decide) ?_
    refine st_lesS (lv' := [some (.ref l0), some (.int l1), some (.int (l2 + Int32.ofInt (1))), none]) ⟨Or.inr rfl, Or.inr rfl, Or.inr rfl, Or.inl rfl, trivial⟩ ?_
    exact hk7 _ _ _ _ hq
def D_X5_term_7 (N : Nat) (kB : mh_H → Nat → Int32 → Option mh_H) : Nat → mh_H → Nat → Int32 → Int32 → Option mh_H
  | 0, _, _, _, _ => none
  | F + 1, h, l0, l1, l2 =>
    if (60 : Int32) ≤ l2 then (some h)
    else (kO h 5 l0 <|
    (D_X5_take N h l0 (42 : Int32)).bind fun q1 =>
    if q1.1 = 0 then (kO q1.2 5 l0 <|
    (D_X5_take N q1.2 l0 (47 : Int32)).bind fun q2 =>
    if q2.1 = 0 then (D_X5_term_42 N kB (D_X5_term_7 N kB F) q2.2 l0 l1 l2 (0 : Int32))
    else (D_X5_term_42 N kB (D_X5_term_7 N kB F) q2.2 l0 l1 l2 (47 : Int32)))
    else (D_X5_term_42 N kB (D_X5_term_7 N kB F) q1.2 l0 l1 l2 (42 : Int32)))
set_option maxHeartbeats 4000000 in
set_option maxRecDepth 100000 in
theorem T_X5_term_7 {P : mh_E → Prop} {N d : Nat} (hd : 6 ≤ d) {kB : mh_H → Nat → Int32 → Option mh_H} {dB : Nat} (hdB : dB + 2 ≤ d) (hB : ∀ (h : mh_H) (x0 : Nat) (x1 : Int32) (z : mh_H), kB h x0 x1 = some z → mh_go P dB mX5_sum 0 [some (.ref x0), some (.int x1), none, none] [] h none z) {z : mh_H} : ∀ (F : Nat) (h : mh_H) (l0 : Nat) (l1 : Int32) (l2 : Int32), D_X5_term_7 N kB F h l0 l1 l2 = some z → mh_go P d mX5_term 7 [some (.ref l0), some (.int l1), some (.int l2), none] [] h none z := by
  intro F
  induction F with
  | zero => intro h l0 l1 l2 hq; rw [D_X5_term_7] at hq; cases hq
  | succ F ih =>
    intro h l0 l1 l2 hq
    rw [D_X5_term_7] at hq
    refine st_iload_n (pc := 7) dX5_term_7 rfl ?_
    refine st_bipush (pc := 8) (v := (60 : Int32)) dX5_term_8 (by decide) ?_
    refine bd_icmp_ge (pc := 10) (tgt := 69) hq dX5_term_10 (by decide) (fun _ hq => ?_) (fun _ hq => ?_)
    ·
      exact bd_vret (pc := 69) hq dX5_term_69 rfl
    ·
      refine st_aload_n (pc := 13) dX5_term_13 rfl ?_
      refine st_bipush (pc := 14) (v := (42 : Int32)) dX5_term_14 (by decide) ?_
      obtain ⟨⟨hbq1, hkq1⟩, hq⟩ := mh_oi hq
      obtain ⟨q1, e1, hq⟩ := mh_ob hq
      refine st_invV (pc := 16) (ci := 5) (vs := [.int (42 : Int32)]) (rest := []) (st2 := [.int q1.1]) dX5_term_16 okX5_take (by decide) hkq1 hbq1 wd_730 wd_732 wp_20 pdX5_take rfl rfl rfl rfl (Nat.le_trans (by decide) hd) (Nat.le_of_ble_eq_true rfl) (T_X5_take (Nat.le_refl _) e1) rfl ?_
      refine bd_if_eq (pc := 19) (tgt := 27) hq dX5_term_19 (by decide) (fun _ hq => ?_) (fun _ hq => ?_)
      ·
        refine st_aload_n (pc := 27) dX5_term_27 rfl ?_
        refine st_bipush (pc := 28) (v := (47 : Int32)) dX5_term_28 (by decide) ?_
        obtain ⟨⟨hbq2, hkq2⟩, hq⟩ := mh_oi hq
        obtain ⟨q2, e2, hq⟩ := mh_ob hq
        refine st_invV (pc := 30) (ci := 5) (vs := [.int (47 : Int32)]) (rest := []) (st2 := [.int q2.1]) dX5_term_30 okX5_take (by decide) hkq2 hbq2 wd_730 wd_732 wp_20 pdX5_take rfl rfl rfl rfl (Nat.le_trans (by decide) hd) (Nat.le_of_ble_eq_true rfl) (T_X5_take (Nat.le_refl _) e2) rfl ?_
        refine bd_if_eq (pc := 33) (tgt := 41) hq dX5_term_33 (by decide) (fun _ hq => ?_) (fun _ hq => ?_)
        ·
          refine st_iconst (pc := 41) (v := (0 : Int32)) dX5_term_41 rfl ?_
          exact T_X5_term_42 hd hdB hB ih hq
        ·
          refine st_bipush (pc := 36) (v := (47 : Int32)) dX5_term_36 (by decide) ?_
          refine st_goto (pc := 38) (tgt := 42) dX5_term_38 (by decide) ?_
          exact T_X5_term_42 hd hdB hB ih hq
      ·
        refine st_bipush (pc := 22) (v := (42 : Int32)) dX5_term_22 (by decide) ?_
        refine st_goto (pc := 24) (tgt := 42) dX5_term_24 (by decide) ?_
        exact T_X5_term_42 hd hdB hB ih hq
def D_X5_term (N : Nat) (kB : mh_H → Nat → Int32 → Option mh_H) (h : mh_H) (l0 : Nat) (l1 : Int32) : Option mh_H :=
  kO h 5 l0 <|
  (D_X5_one N kB h l0 l1).bind fun q1 =>
  D_X5_term_7 N kB N q1 l0 l1 (0 : Int32)
set_option maxHeartbeats 4000000 in
set_option maxRecDepth 100000 in
theorem T_X5_term {P : mh_E → Prop} {N d : Nat} (hd : 6 ≤ d) {kB : mh_H → Nat → Int32 → Option mh_H} {dB : Nat} (hdB : dB + 2 ≤ d) (hB : ∀ (h : mh_H) (x0 : Nat) (x1 : Int32) (z : mh_H), kB h x0 x1 = some z → mh_go P dB mX5_sum 0 [some (.ref x0), some (.int x1), none, none] [] h none z) {z : mh_H} {h : mh_H} {l0 : Nat} {l1 : Int32} (hq : D_X5_term N kB h l0 l1 = some z) : mh_go P d mX5_term 0 [some (.ref l0), some (.int l1), none, none] [] h none z := by
  unfold D_X5_term at hq
  refine st_aload_n (pc := 0) dX5_term_0 rfl ?_
  refine st_iload_n (pc := 1) dX5_term_1 rfl ?_
  obtain ⟨⟨hbq1, hkq1⟩, hq⟩ := mh_oi hq
  obtain ⟨q1, e1, hq⟩ := mh_ob hq
  refine st_invV (pc := 2) (ci := 5) (vs := [.int l1]) (rest := []) (st2 := []) dX5_term_2 okX5_one (by decide) hkq1 hbq1 wd_714 wd_716 wp_17 pdX5_one rfl rfl rfl rfl (by omega) (Nat.le_of_ble_eq_true rfl) (T_X5_one (d := d - 1) (by omega) (by omega) hB e1) rfl ?_
  refine st_iconst (pc := 5) (v := (0 : Int32)) dX5_term_5 rfl ?_
  refine st_istore_n (pc := 6) (lv' := [some (.ref l0), some (.int l1), some (.int (0 : Int32)), none]) dX5_term_6 rfl (by decide) rfl ?_
  exact T_X5_term_7 hd hdB hB N _ _ _ _ hq
-- HoleWater$Reader.sum(I)V
theorem dX5_sum_42 : decode cX5_sum 42 = .ok (.istore_n 3, 1) := by decide +kernel
theorem dX5_sum_43 : decode cX5_sum 43 = .ok (.iload_n 3, 1) := by decide +kernel
theorem dX5_sum_44 : decode cX5_sum 44 = .ok (.ifCond .ne 4, 3) := by decide +kernel
theorem dX5_sum_47 : decode cX5_sum 47 = .ok (.return_, 1) := by decide +kernel
theorem dX5_sum_48 : decode cX5_sum 48 = .ok (.aload_n 0, 1) := by decide +kernel
theorem dX5_sum_49 : decode cX5_sum 49 = .ok (.iload_n 1, 1) := by decide +kernel
theorem dX5_sum_50 : decode cX5_sum 50 = .ok (.invokevirtual 81, 3) := by decide +kernel
theorem dX5_sum_53 : decode cX5_sum 53 = .ok (.aload_n 0, 1) := by decide +kernel
theorem dX5_sum_54 : decode cX5_sum 54 = .ok (.getfield 20, 3) := by decide +kernel
theorem dX5_sum_57 : decode cX5_sum 57 = .ok (.iload_n 3, 1) := by decide +kernel
theorem dX5_sum_58 : decode cX5_sum 58 = .ok (.ineg, 1) := by decide +kernel
theorem dX5_sum_59 : decode cX5_sum 59 = .ok (.invokevirtual 60, 3) := by decide +kernel
theorem dX5_sum_62 : decode cX5_sum 62 = .ok (.pop, 1) := by decide +kernel
theorem dX5_sum_63 : decode cX5_sum 63 = .ok (.iinc 2 1, 3) := by decide +kernel
theorem dX5_sum_66 : decode cX5_sum 66 = .ok (.goto (-59), 3) := by decide +kernel
theorem dX5_sum_7 : decode cX5_sum 7 = .ok (.iload_n 2, 1) := by decide +kernel
theorem dX5_sum_8 : decode cX5_sum 8 = .ok (.bipush 60, 2) := by decide +kernel
theorem dX5_sum_10 : decode cX5_sum 10 = .ok (.if_icmp .ge 59, 3) := by decide +kernel
theorem dX5_sum_69 : decode cX5_sum 69 = .ok (.return_, 1) := by decide +kernel
theorem dX5_sum_13 : decode cX5_sum 13 = .ok (.aload_n 0, 1) := by decide +kernel
theorem dX5_sum_14 : decode cX5_sum 14 = .ok (.bipush 43, 2) := by decide +kernel
theorem dX5_sum_16 : decode cX5_sum 16 = .ok (.invokevirtual 64, 3) := by decide +kernel
theorem dX5_sum_19 : decode cX5_sum 19 = .ok (.ifCond .eq 8, 3) := by decide +kernel
theorem dX5_sum_27 : decode cX5_sum 27 = .ok (.aload_n 0, 1) := by decide +kernel
theorem dX5_sum_28 : decode cX5_sum 28 = .ok (.bipush 45, 2) := by decide +kernel
theorem dX5_sum_30 : decode cX5_sum 30 = .ok (.invokevirtual 64, 3) := by decide +kernel
theorem dX5_sum_33 : decode cX5_sum 33 = .ok (.ifCond .eq 8, 3) := by decide +kernel
theorem dX5_sum_41 : decode cX5_sum 41 = .ok (.iconst 0, 1) := by decide +kernel
theorem dX5_sum_36 : decode cX5_sum 36 = .ok (.bipush 45, 2) := by decide +kernel
theorem dX5_sum_38 : decode cX5_sum 38 = .ok (.goto 4, 3) := by decide +kernel
theorem dX5_sum_22 : decode cX5_sum 22 = .ok (.bipush 43, 2) := by decide +kernel
theorem dX5_sum_24 : decode cX5_sum 24 = .ok (.goto 18, 3) := by decide +kernel
theorem dX5_sum_0 : decode cX5_sum 0 = .ok (.aload_n 0, 1) := by decide +kernel
theorem dX5_sum_1 : decode cX5_sum 1 = .ok (.iload_n 1, 1) := by decide +kernel
theorem dX5_sum_2 : decode cX5_sum 2 = .ok (.invokevirtual 81, 3) := by decide +kernel
theorem dX5_sum_5 : decode cX5_sum 5 = .ok (.iconst 0, 1) := by decide +kernel
theorem dX5_sum_6 : decode cX5_sum 6 = .ok (.istore_n 2, 1) := by decide +kernel
def D_X5_sum_42 (N : Nat) (kB : mh_H → Nat → Int32 → Option mh_H) (k7 : mh_H → Nat → Int32 → Int32 → Option mh_H) (h : mh_H) (l0 : Nat) (l1 : Int32) (l2 : Int32) (s0 : Int32) : Option mh_H :=
  if s0 = 0 then (some h)
  else (kO h 5 l0 <|
  (D_X5_term N kB h l0 l1).bind fun q1 =>
  (gR q1 5 l0 1).bind fun v2 =>
  kO q1 6 v2 <|
  (D_X6_add N q1 v2 (-s0)).bind fun q3 =>
  k7 q3.2 l0 l1 (l2 + Int32.ofInt (1)))
set_option maxHeartbeats 4000000 in
set_option maxRecDepth 100000 in
theorem T_X5_sum_42 {P : mh_E → Prop} {N d : Nat} (hd : 7 ≤ d) {kB : mh_H → Nat → Int32 → Option mh_H} {dB : Nat} (hdB : dB + 3 ≤ d) (hB : ∀ (h : mh_H) (x0 : Nat) (x1 : Int32) (z : mh_H), kB h x0 x1 = some z → mh_go P dB mX5_sum 0 [some (.ref x0), some (.int x1), none, none] [] h none z) {z : mh_H} {k7 : mh_H → Nat → Int32 → Int32 → Option mh_H} (hk7 : ∀ (h : mh_H) (l0 : Nat) (l1 : Int32) (l2 : Int32), k7 h l0 l1 l2 = some z → mh_go P d mX5_sum 7 [some (.ref l0), some (.int l1), some (.int l2), none] [] h none z) {h : mh_H} {l0 : Nat} {l1 : Int32} {l2 : Int32} {s0 : Int32} (hq : D_X5_sum_42 N kB k7 h l0 l1 l2 s0 = some z) : mh_go P d mX5_sum 42 [some (.ref l0), some (.int l1), some (.int l2), none] [.int s0] h none z := by
  unfold D_X5_sum_42 at hq
  refine st_istore_n (pc := 42) (lv' := [some (.ref l0), some (.int l1), some (.int l2), some (.int s0)]) dX5_sum_42 rfl (by decide) rfl ?_
  refine st_iload_n (pc := 43) dX5_sum_43 rfl ?_
  refine bd_if_ne (pc := 44) (tgt := 48) hq dX5_sum_44 (by decide) (fun _ hq => ?_) (fun _ hq => ?_)
  ·
    exact bd_vret (pc := 47) hq dX5_sum_47 rfl
  ·
    refine st_aload_n (pc := 48) dX5_sum_48 rfl ?_
    refine st_iload_n (pc := 49) dX5_sum_49 rfl ?_
    obtain ⟨⟨hbq1, hkq1⟩, hq⟩ := mh_oi hq
    obtain ⟨q1, e1, hq⟩ := mh_ob hq
    refine st_invV (pc := 50) (ci := 5) (vs := [.int l1]) (rest := []) (st2 := []) dX5_sum_50 okX5_term (by decide) hkq1 hbq1 wd_710 wd_712 wp_16 pdX5_term rfl rfl rfl rfl (by omega) (Nat.le_of_ble_eq_true rfl) (T_X5_term (d := d - 1) (by omega) (by omega) hB e1) rfl ?_
    refine st_aload_n (pc := 53) dX5_sum_53 rfl ?_
    refine bd_getr (pc := 54) hq dX5_sum_54 fl_5_20_5 rfl (fun v2 hq => ?_)
    refine st_iload_n (pc := 57) dX5_sum_57 rfl ?_
    refine st_ineg (pc := 58) dX5_sum_58 ?_
    obtain ⟨⟨hbq3, hkq3⟩, hq⟩ := mh_oi hq
    obtain ⟨q3, e3, hq⟩ := mh_ob hq
    refine st_invV (pc := 59) (ci := 6) (vs := [.int (-s0)]) (rest := []) (st2 := [.int q3.1]) dX5_sum_59 okX6_add (by decide) hkq3 hbq3 wd_729 wd_688 wd_689 pdX6_add rfl rfl rfl rfl (Nat.le_trans (by decide) hd) (Nat.le_of_ble_eq_true rfl) (T_X6_add (Nat.le_refl _) e3) rfl ?_
    refine st_pop (pc := 62) dX5_sum_62 rfl ?_
    refine st_iinc (pc := 63) (lv' := [some (.ref l0), some (.int l1), some (.int (l2 + Int32.ofInt (1))), some (.int s0)]) dX5_sum_63 rfl rfl (by decide) rfl ?_
    refine st_goto (pc := 66) (tgt := 7) dX5_sum_66 (by decide) ?_
    refine st_lesS (lv' := [some (.ref l0), some (.int l1), some (.int (l2 + Int32.ofInt (1))), none]) ⟨Or.inr rfl, Or.inr rfl, Or.inr rfl, Or.inl rfl, trivial⟩ ?_
    exact hk7 _ _ _ _ hq
def D_X5_sum_7 (N : Nat) (kB : mh_H → Nat → Int32 → Option mh_H) : Nat → mh_H → Nat → Int32 → Int32 → Option mh_H
  | 0, _, _, _, _ => none
  | F + 1, h, l0, l1, l2 =>
    if (60 : Int32) ≤ l2 then (some h)
    else (kO h 5 l0 <|
    (D_X5_take N h l0 (43 : Int32)).bind fun q1 =>
    if q1.1 = 0 then (kO q1.2 5 l0 <|
    (D_X5_take N q1.2 l0 (45 : Int32)).bind fun q2 =>
    if q2.1 = 0 then (D_X5_sum_42 N kB (D_X5_sum_7 N kB F) q2.2 l0 l1 l2 (0 : Int32))
    else (D_X5_sum_42 N kB (D_X5_sum_7 N kB F) q2.2 l0 l1 l2 (45 : Int32)))
    else (D_X5_sum_42 N kB (D_X5_sum_7 N kB F) q1.2 l0 l1 l2 (43 : Int32)))
set_option maxHeartbeats 4000000 in
set_option maxRecDepth 100000 in
theorem T_X5_sum_7 {P : mh_E → Prop} {N d : Nat} (hd : 7 ≤ d) {kB : mh_H → Nat → Int32 → Option mh_H} {dB : Nat} (hdB : dB + 3 ≤ d) (hB : ∀ (h : mh_H) (x0 : Nat) (x1 : Int32) (z : mh_H), kB h x0 x1 = some z → mh_go P dB mX5_sum 0 [some (.ref x0), some (.int x1), none, none] [] h none z) {z : mh_H} : ∀ (F : Nat) (h : mh_H) (l0 : Nat) (l1 : Int32) (l2 : Int32), D_X5_sum_7 N kB F h l0 l1 l2 = some z → mh_go P d mX5_sum 7 [some (.ref l0), some (.int l1), some (.int l2), none] [] h none z := by
  intro F
  induction F with
  | zero => intro h l0 l1 l2 hq; rw [D_X5_sum_7] at hq; cases hq
  | succ F ih =>
    intro h l0 l1 l2 hq
    rw [D_X5_sum_7] at hq
    refine st_iload_n (pc := 7) dX5_sum_7 rfl ?_
    refine st_bipush (pc := 8) (v := (60 : Int32)) dX5_sum_8 (by decide) ?_
    refine bd_icmp_ge (pc := 10) (tgt := 69) hq dX5_sum_10 (by decide) (fun _ hq => ?_) (fun _ hq => ?_)
    ·
      exact bd_vret (pc := 69) hq dX5_sum_69 rfl
    ·
      refine st_aload_n (pc := 13) dX5_sum_13 rfl ?_
      refine st_bipush (pc := 14) (v := (43 : Int32)) dX5_sum_14 (by decide) ?_
      obtain ⟨⟨hbq1, hkq1⟩, hq⟩ := mh_oi hq
      obtain ⟨q1, e1, hq⟩ := mh_ob hq
      refine st_invV (pc := 16) (ci := 5) (vs := [.int (43 : Int32)]) (rest := []) (st2 := [.int q1.1]) dX5_sum_16 okX5_take (by decide) hkq1 hbq1 wd_730 wd_732 wp_20 pdX5_take rfl rfl rfl rfl (Nat.le_trans (by decide) hd) (Nat.le_of_ble_eq_true rfl) (T_X5_take (Nat.le_refl _) e1) rfl ?_
      refine bd_if_eq (pc := 19) (tgt := 27) hq dX5_sum_19 (by decide) (fun _ hq => ?_) (fun _ hq => ?_)
      ·
        refine st_aload_n (pc := 27) dX5_sum_27 rfl ?_
        refine st_bipush (pc := 28) (v := (45 : Int32)) dX5_sum_28 (by decide) ?_
        obtain ⟨⟨hbq2, hkq2⟩, hq⟩ := mh_oi hq
        obtain ⟨q2, e2, hq⟩ := mh_ob hq
        refine st_invV (pc := 30) (ci := 5) (vs := [.int (45 : Int32)]) (rest := []) (st2 := [.int q2.1]) dX5_sum_30 okX5_take (by decide) hkq2 hbq2 wd_730 wd_732 wp_20 pdX5_take rfl rfl rfl rfl (Nat.le_trans (by decide) hd) (Nat.le_of_ble_eq_true rfl) (T_X5_take (Nat.le_refl _) e2) rfl ?_
        refine bd_if_eq (pc := 33) (tgt := 41) hq dX5_sum_33 (by decide) (fun _ hq => ?_) (fun _ hq => ?_)
        ·
          refine st_iconst (pc := 41) (v := (0 : Int32)) dX5_sum_41 rfl ?_
          exact T_X5_sum_42 hd hdB hB ih hq
        ·
          refine st_bipush (pc := 36) (v := (45 : Int32)) dX5_sum_36 (by decide) ?_
          refine st_goto (pc := 38) (tgt := 42) dX5_sum_38 (by decide) ?_
          exact T_X5_sum_42 hd hdB hB ih hq
      ·
        refine st_bipush (pc := 22) (v := (43 : Int32)) dX5_sum_22 (by decide) ?_
        refine st_goto (pc := 24) (tgt := 42) dX5_sum_24 (by decide) ?_
        exact T_X5_sum_42 hd hdB hB ih hq
def E_X5_sum (N : Nat) (kB : mh_H → Nat → Int32 → Option mh_H) (h : mh_H) (l0 : Nat) (l1 : Int32) : Option mh_H :=
  kO h 5 l0 <|
  (D_X5_term N kB h l0 l1).bind fun q1 =>
  D_X5_sum_7 N kB N q1 l0 l1 (0 : Int32)
set_option maxHeartbeats 4000000 in
set_option maxRecDepth 100000 in
theorem TE_X5_sum {P : mh_E → Prop} {N d : Nat} (hd : 7 ≤ d) {kB : mh_H → Nat → Int32 → Option mh_H} {dB : Nat} (hdB : dB + 3 ≤ d) (hB : ∀ (h : mh_H) (x0 : Nat) (x1 : Int32) (z : mh_H), kB h x0 x1 = some z → mh_go P dB mX5_sum 0 [some (.ref x0), some (.int x1), none, none] [] h none z) {z : mh_H} {h : mh_H} {l0 : Nat} {l1 : Int32} (hq : E_X5_sum N kB h l0 l1 = some z) : mh_go P d mX5_sum 0 [some (.ref l0), some (.int l1), none, none] [] h none z := by
  unfold E_X5_sum at hq
  refine st_aload_n (pc := 0) dX5_sum_0 rfl ?_
  refine st_iload_n (pc := 1) dX5_sum_1 rfl ?_
  obtain ⟨⟨hbq1, hkq1⟩, hq⟩ := mh_oi hq
  obtain ⟨q1, e1, hq⟩ := mh_ob hq
  refine st_invV (pc := 2) (ci := 5) (vs := [.int l1]) (rest := []) (st2 := []) dX5_sum_2 okX5_term (by decide) hkq1 hbq1 wd_710 wd_712 wp_16 pdX5_term rfl rfl rfl rfl (by omega) (Nat.le_of_ble_eq_true rfl) (T_X5_term (d := d - 1) (by omega) (by omega) hB e1) rfl ?_
  refine st_iconst (pc := 5) (v := (0 : Int32)) dX5_sum_5 rfl ?_
  refine st_istore_n (pc := 6) (lv' := [some (.ref l0), some (.int l1), some (.int (0 : Int32)), none]) dX5_sum_6 rfl (by decide) rfl ?_
  exact T_X5_sum_7 hd hdB hB N _ _ _ _ hq
def D_X5_sum (N : Nat) : Nat → mh_H → Nat → Int32 → Option mh_H
  | 0, _, _, _ => none
  | D + 1, h, l0, l1 => E_X5_sum N (D_X5_sum N D) h l0 l1
set_option maxHeartbeats 4000000 in
set_option maxRecDepth 100000 in
theorem T_X5_sum {P : mh_E → Prop} {N : Nat} : ∀ (D d : Nat), 7 + 3 * D ≤ d → ∀ (h : mh_H) (l0 : Nat) (l1 : Int32) (z : mh_H), D_X5_sum N D h l0 l1 = some z → mh_go P d mX5_sum 0 [some (.ref l0), some (.int l1), none, none] [] h none z := by
  intro D
  induction D with
  | zero => intro d hd h l0 l1 z hq; rw [D_X5_sum] at hq; cases hq
  | succ D ih =>
    intro d hd h l0 l1 z hq
    rw [D_X5_sum] at hq
    exact TE_X5_sum (dB := 7 + 3 * D) (by omega) (by omega) (fun h l0 l1 z hq => ih _ (Nat.le_refl _) h l0 l1 z hq) hq
