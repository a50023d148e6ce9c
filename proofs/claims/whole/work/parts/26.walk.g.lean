-- HoleWater.town(IZ)I
theorem dX11_town_0 : decode cX11_town 0 = .ok (.aload_n 0, 1) := by decide +kernel
theorem dX11_town_1 : decode cX11_town 1 = .ok (.getfield 12, 3) := by decide +kernel
theorem dX11_town_4 : decode cX11_town 4 = .ok (.iload_n 1, 1) := by decide +kernel
theorem dX11_town_5 : decode cX11_town 5 = .ok (.invokevirtual 77, 3) := by decide +kernel
theorem dX11_town_8 : decode cX11_town 8 = .ok (.ifCond .ne 9, 3) := by decide +kernel
theorem dX11_town_11 : decode cX11_town 11 = .ok (.aload_n 0, 1) := by decide +kernel
theorem dX11_town_12 : decode cX11_town 12 = .ok (.iconst 1, 1) := by decide +kernel
theorem dX11_town_13 : decode cX11_town 13 = .ok (.invokevirtual 66, 3) := by decide +kernel
theorem dX11_town_16 : decode cX11_town 16 = .ok (.ireturn, 1) := by decide +kernel
theorem dX11_town_17 : decode cX11_town 17 = .ok (.aload_n 0, 1) := by decide +kernel
theorem dX11_town_18 : decode cX11_town 18 = .ok (.getfield 12, 3) := by decide +kernel
theorem dX11_town_21 : decode cX11_town 21 = .ok (.iload_n 1, 1) := by decide +kernel
theorem dX11_town_22 : decode cX11_town 22 = .ok (.iconst 2, 1) := by decide +kernel
theorem dX11_town_23 : decode cX11_town 23 = .ok (.invokevirtual 112, 3) := by decide +kernel
theorem dX11_town_26 : decode cX11_town 26 = .ok (.ifCond .ne 9, 3) := by decide +kernel
theorem dX11_town_29 : decode cX11_town 29 = .ok (.aload_n 0, 1) := by decide +kernel
theorem dX11_town_30 : decode cX11_town 30 = .ok (.iconst 5, 1) := by decide +kernel
theorem dX11_town_31 : decode cX11_town 31 = .ok (.invokevirtual 66, 3) := by decide +kernel
theorem dX11_town_34 : decode cX11_town 34 = .ok (.ireturn, 1) := by decide +kernel
theorem dX11_town_35 : decode cX11_town 35 = .ok (.aload_n 0, 1) := by decide +kernel
theorem dX11_town_36 : decode cX11_town 36 = .ok (.getfield 12, 3) := by decide +kernel
theorem dX11_town_39 : decode cX11_town 39 = .ok (.getfield 102, 3) := by decide +kernel
theorem dX11_town_42 : decode cX11_town 42 = .ok (.iload_n 1, 1) := by decide +kernel
theorem dX11_town_43 : decode cX11_town 43 = .ok (.invokestatic 105, 3) := by decide +kernel
theorem dX11_town_46 : decode cX11_town 46 = .ok (.istore_n 3, 1) := by decide +kernel
theorem dX11_town_47 : decode cX11_town 47 = .ok (.aload_n 0, 1) := by decide +kernel
theorem dX11_town_48 : decode cX11_town 48 = .ok (.getfield 12, 3) := by decide +kernel
theorem dX11_town_51 : decode cX11_town 51 = .ok (.iload_n 2, 1) := by decide +kernel
theorem dX11_town_52 : decode cX11_town 52 = .ok (.ifCond .eq 17, 3) := by decide +kernel
theorem dX11_town_69 : decode cX11_town 69 = .ok (.aload_n 0, 1) := by decide +kernel
theorem dX11_town_70 : decode cX11_town 70 = .ok (.getfield 12, 3) := by decide +kernel
theorem dX11_town_73 : decode cX11_town 73 = .ok (.getfield 102, 3) := by decide +kernel
theorem dX11_town_76 : decode cX11_town 76 = .ok (.iconst 1, 1) := by decide +kernel
theorem dX11_town_77 : decode cX11_town 77 = .ok (.iload_n 1, 1) := by decide +kernel
theorem dX11_town_78 : decode cX11_town 78 = .ok (.ishl, 1) := by decide +kernel
theorem dX11_town_79 : decode cX11_town 79 = .ok (.iconst (-1), 1) := by decide +kernel
theorem dX11_town_80 : decode cX11_town 80 = .ok (.ixor, 1) := by decide +kernel
theorem dX11_town_81 : decode cX11_town 81 = .ok (.iand, 1) := by decide +kernel
theorem dX11_town_82 : decode cX11_town 82 = .ok (.putfield 102, 3) := by decide +kernel
theorem dX11_town_85 : decode cX11_town 85 = .ok (.iload_n 3, 1) := by decide +kernel
theorem dX11_town_86 : decode cX11_town 86 = .ok (.ireturn, 1) := by decide +kernel
theorem dX11_town_55 : decode cX11_town 55 = .ok (.aload_n 0, 1) := by decide +kernel
theorem dX11_town_56 : decode cX11_town 56 = .ok (.getfield 12, 3) := by decide +kernel
theorem dX11_town_59 : decode cX11_town 59 = .ok (.getfield 102, 3) := by decide +kernel
theorem dX11_town_62 : decode cX11_town 62 = .ok (.iconst 1, 1) := by decide +kernel
theorem dX11_town_63 : decode cX11_town 63 = .ok (.iload_n 1, 1) := by decide +kernel
theorem dX11_town_64 : decode cX11_town 64 = .ok (.ishl, 1) := by decide +kernel
theorem dX11_town_65 : decode cX11_town 65 = .ok (.ior, 1) := by decide +kernel
theorem dX11_town_66 : decode cX11_town 66 = .ok (.goto 16, 3) := by decide +kernel
def D_X11_town (N : Nat) (h : mh_H) (l0 : Nat) (l1 : Int32) (l2 : Int32) : Option (Int32 × mh_H) :=
  (gR h 11 l0 0).bind fun v1 =>
  kO h 10 v1 <|
  (D_X10_isJoint N h v1 l1).bind fun q2 =>
  if q2.1 = 0 then (kO q2.2 11 l0 <|
  (D_X11_error N q2.2 l0 (1 : Int32)).bind fun q3 =>
  some (q3.1, q3.2))
  else ((gR q2.2 11 l0 0).bind fun v3 =>
  kO q2.2 10 v3 <|
  (D_X10_isOf N q2.2 v3 l1 (2 : Int32)).bind fun q4 =>
  if q4.1 = 0 then (kO q4.2 11 l0 <|
  (D_X11_error N q4.2 l0 (5 : Int32)).bind fun q5 =>
  some (q5.1, q5.2))
  else ((gR q4.2 11 l0 0).bind fun v5 =>
  (gI q4.2 10 v5 2).bind fun v6 =>
  (D_X11_bit N q4.2 v6 l1).bind fun q7 =>
  (gR q7.2 11 l0 0).bind fun v8 =>
  if l2 = 0 then ((gR q7.2 11 l0 0).bind fun v9 =>
  (gI q7.2 10 v9 2).bind fun v10 =>
  (pI q7.2 10 v8 2 (v10 &&& (((1 : Int32) <<< (l1 &&& 31)) ^^^ (-1 : Int32)))).bind fun h11 =>
  some (q7.1, h11))
  else ((gR q7.2 11 l0 0).bind fun v9 =>
  (gI q7.2 10 v9 2).bind fun v10 =>
  (pI q7.2 10 v8 2 (v10 ||| ((1 : Int32) <<< (l1 &&& 31)))).bind fun h11 =>
  some (q7.1, h11))))
set_option maxHeartbeats 4000000 in
set_option maxRecDepth 100000 in
theorem T_X11_town {P : mh_E → Prop} {N d : Nat} (hd : 3 ≤ d) {z : (Int32 × mh_H)} {h : mh_H} {l0 : Nat} {l1 : Int32} {l2 : Int32} (hq : D_X11_town N h l0 l1 l2 = some z) : mh_go P d mX11_town 0 [some (.ref l0), some (.int l1), some (.int l2), none] [] h (some (.int z.1)) z.2 := by
  unfold D_X11_town at hq
  refine st_aload_n (pc := 0) dX11_town_0 rfl ?_
  refine bd_getr (pc := 1) hq dX11_town_1 fl_11_12_11 rfl (fun v1 hq => ?_)
  refine st_iload_n (pc := 4) dX11_town_4 rfl ?_
  obtain ⟨⟨hbq2, hkq2⟩, hq⟩ := mh_oi hq
  obtain ⟨q2, e2, hq⟩ := mh_ob hq
  refine st_invV (pc := 5) (ci := 10) (vs := [.int l1]) (rest := []) (st2 := [.int q2.1]) dX11_town_5 okX10_isJoint (by decide) hkq2 hbq2 wd_339 wd_340 wd_341 pdX10_isJoint rfl rfl rfl rfl (Nat.le_trans (by decide) hd) (Nat.le_of_ble_eq_true rfl) (T_X10_isJoint (Nat.le_refl _) e2) rfl ?_
  refine bd_if_ne (pc := 8) (tgt := 17) hq dX11_town_8 (by decide) (fun _ hq => ?_) (fun _ hq => ?_)
  ·
    refine st_aload_n (pc := 11) dX11_town_11 rfl ?_
    refine st_iconst (pc := 12) (v := (1 : Int32)) dX11_town_12 rfl ?_
    obtain ⟨⟨hbq3, hkq3⟩, hq⟩ := mh_oi hq
    obtain ⟨q3, e3, hq⟩ := mh_ob hq
    refine st_invV (pc := 13) (ci := 11) (vs := [.int (1 : Int32)]) (rest := []) (st2 := [.int q3.1]) dX11_town_13 okX11_error (by decide) hkq3 hbq3 wd_326 wd_328 wp_0 pdX11_error rfl rfl rfl rfl (Nat.le_trans (by decide) hd) (Nat.le_of_ble_eq_true rfl) (T_X11_error (Nat.le_refl _) e3) rfl ?_
    exact bd_iret (pc := 16) hq dX11_town_16 rfl
  ·
    refine st_aload_n (pc := 17) dX11_town_17 rfl ?_
    refine bd_getr (pc := 18) hq dX11_town_18 fl_11_12_11 rfl (fun v3 hq => ?_)
    refine st_iload_n (pc := 21) dX11_town_21 rfl ?_
    refine st_iconst (pc := 22) (v := (2 : Int32)) dX11_town_22 rfl ?_
    obtain ⟨⟨hbq4, hkq4⟩, hq⟩ := mh_oi hq
    obtain ⟨q4, e4, hq⟩ := mh_ob hq
    refine st_invV (pc := 23) (ci := 10) (vs := [.int l1, .int (2 : Int32)]) (rest := []) (st2 := [.int q4.1]) dX11_town_23 okX10_isOf (by decide) hkq4 hbq4 wd_359 wd_355 wd_356 pdX10_isOf rfl rfl rfl rfl (Nat.le_trans (by decide) hd) (Nat.le_of_ble_eq_true rfl) (T_X10_isOf (Nat.le_refl _) e4) rfl ?_
    refine bd_if_ne (pc := 26) (tgt := 35) hq dX11_town_26 (by decide) (fun _ hq => ?_) (fun _ hq => ?_)
    ·
      refine st_aload_n (pc := 29) dX11_town_29 rfl ?_
      refine st_iconst (pc := 30) (v := (5 : Int32)) dX11_town_30 rfl ?_
      obtain ⟨⟨hbq5, hkq5⟩, hq⟩ := mh_oi hq
      obtain ⟨q5, e5, hq⟩ := mh_ob hq
      refine st_invV (pc := 31) (ci := 11) (vs := [.int (5 : Int32)]) (rest := []) (st2 := [.int q5.1]) dX11_town_31 okX11_error (by decide) hkq5 hbq5 wd_326 wd_328 wp_0 pdX11_error rfl rfl rfl rfl (Nat.le_trans (by decide) hd) (Nat.le_of_ble_eq_true rfl) (T_X11_error (Nat.le_refl _) e5) rfl ?_
      exact bd_iret (pc := 34) hq dX11_town_34 rfl
    ·
      refine st_aload_n (pc := 35) dX11_town_35 rfl ?_
      refine bd_getr (pc := 36) hq dX11_town_36 fl_11_12_11 rfl (fun v5 hq => ?_)
      refine bd_geti (pc := 39) hq dX11_town_39 fl_11_102_10 rfl (fun v6 hq => ?_)
      refine st_iload_n (pc := 42) dX11_town_42 rfl ?_
      obtain ⟨q7, e7, hq⟩ := mh_ob hq
      refine st_invS (pc := 43) (Y := mX11_bit) (vs := [.int v6, .int l1]) (rest := []) (st2 := [.int q7.1]) dX11_town_43 okX11_bit wd_343 wd_344 pdX11_bit rfl rfl rfl rfl (Nat.le_trans (by decide) hd) (Nat.le_of_ble_eq_true rfl) (T_X11_bit (Nat.le_refl _) e7) rfl ?_
      refine st_istore_n (pc := 46) (lv' := [some (.ref l0), some (.int l1), some (.int l2), some (.int q7.1)]) dX11_town_46 rfl (by decide) rfl ?_
      refine st_aload_n (pc := 47) dX11_town_47 rfl ?_
      refine bd_getr (pc := 48) hq dX11_town_48 fl_11_12_11 rfl (fun v8 hq => ?_)
      refine st_iload_n (pc := 51) dX11_town_51 rfl ?_
      refine bd_if_eq (pc := 52) (tgt := 69) hq dX11_town_52 (by decide) (fun _ hq => ?_) (fun _ hq => ?_)
      ·
        refine st_aload_n (pc := 69) dX11_town_69 rfl ?_
        refine bd_getr (pc := 70) hq dX11_town_70 fl_11_12_11 rfl (fun v9 hq => ?_)
        refine bd_geti (pc := 73) hq dX11_town_73 fl_11_102_10 rfl (fun v10 hq => ?_)
        refine st_iconst (pc := 76) (v := (1 : Int32)) dX11_town_76 rfl ?_
        refine st_iload_n (pc := 77) dX11_town_77 rfl ?_
        refine st_ishl (pc := 78) dX11_town_78 ?_
        refine st_iconst (pc := 79) (v := (-1 : Int32)) dX11_town_79 rfl ?_
        refine st_ixor (pc := 80) dX11_town_80 ?_
        refine st_iand (pc := 81) dX11_town_81 ?_
        refine bd_puti (pc := 82) hq dX11_town_82 fl_11_102_10 (Or.inl rfl) rfl (fun h11 hq => ?_)
        refine st_iload_n (pc := 85) dX11_town_85 rfl ?_
        exact bd_iret (pc := 86) hq dX11_town_86 rfl
      ·
        refine st_aload_n (pc := 55) dX11_town_55 rfl ?_
        refine bd_getr (pc := 56) hq dX11_town_56 fl_11_12_11 rfl (fun v9 hq => ?_)
        refine bd_geti (pc := 59) hq dX11_town_59 fl_11_102_10 rfl (fun v10 hq => ?_)
        refine st_iconst (pc := 62) (v := (1 : Int32)) dX11_town_62 rfl ?_
        refine st_iload_n (pc := 63) dX11_town_63 rfl ?_
        refine st_ishl (pc := 64) dX11_town_64 ?_
        refine st_ior (pc := 65) dX11_town_65 ?_
        refine st_goto (pc := 66) (tgt := 82) dX11_town_66 (by decide) ?_
        refine bd_puti (pc := 82) hq dX11_town_82 fl_11_102_10 (Or.inl rfl) rfl (fun h11 hq => ?_)
        refine st_iload_n (pc := 85) dX11_town_85 rfl ?_
        exact bd_iret (pc := 86) hq dX11_town_86 rfl
-- HoleWater$Looks.holesKnownAt(I)I
theorem dX1_holesKnownAt_44 : decode cX1_holesKnownAt 44 = .ok (.iinc 3 1, 3) := by decide +kernel
theorem dX1_holesKnownAt_47 : decode cX1_holesKnownAt 47 = .ok (.goto (-43), 3) := by decide +kernel
theorem dX1_holesKnownAt_4 : decode cX1_holesKnownAt 4 = .ok (.iload_n 3, 1) := by decide +kernel
theorem dX1_holesKnownAt_5 : decode cX1_holesKnownAt 5 = .ok (.aload_n 0, 1) := by decide +kernel
theorem dX1_holesKnownAt_6 : decode cX1_holesKnownAt 6 = .ok (.getfield 15, 3) := by decide +kernel
theorem dX1_holesKnownAt_9 : decode cX1_holesKnownAt 9 = .ok (.if_icmp .ge 41, 3) := by decide +kernel
theorem dX1_holesKnownAt_50 : decode cX1_holesKnownAt 50 = .ok (.iload_n 2, 1) := by decide +kernel
theorem dX1_holesKnownAt_51 : decode cX1_holesKnownAt 51 = .ok (.ireturn, 1) := by decide +kernel
theorem dX1_holesKnownAt_12 : decode cX1_holesKnownAt 12 = .ok (.iload_n 1, 1) := by decide +kernel
theorem dX1_holesKnownAt_13 : decode cX1_holesKnownAt 13 = .ok (.aload_n 0, 1) := by decide +kernel
theorem dX1_holesKnownAt_14 : decode cX1_holesKnownAt 14 = .ok (.iload_n 3, 1) := by decide +kernel
theorem dX1_holesKnownAt_15 : decode cX1_holesKnownAt 15 = .ok (.iconst 0, 1) := by decide +kernel
theorem dX1_holesKnownAt_16 : decode cX1_holesKnownAt 16 = .ok (.invokevirtual 60, 3) := by decide +kernel
theorem dX1_holesKnownAt_19 : decode cX1_holesKnownAt 19 = .ok (.invokestatic 63, 3) := by decide +kernel
theorem dX1_holesKnownAt_22 : decode cX1_holesKnownAt 22 = .ok (.iconst 1, 1) := by decide +kernel
theorem dX1_holesKnownAt_23 : decode cX1_holesKnownAt 23 = .ok (.if_icmp .ne 21, 3) := by decide +kernel
theorem dX1_holesKnownAt_26 : decode cX1_holesKnownAt 26 = .ok (.aload_n 0, 1) := by decide +kernel
theorem dX1_holesKnownAt_27 : decode cX1_holesKnownAt 27 = .ok (.iload_n 3, 1) := by decide +kernel
theorem dX1_holesKnownAt_28 : decode cX1_holesKnownAt 28 = .ok (.invokevirtual 70, 3) := by decide +kernel
theorem dX1_holesKnownAt_31 : decode cX1_holesKnownAt 31 = .ok (.ifCond .eq 13, 3) := by decide +kernel
theorem dX1_holesKnownAt_34 : decode cX1_holesKnownAt 34 = .ok (.iload_n 2, 1) := by decide +kernel
theorem dX1_holesKnownAt_35 : decode cX1_holesKnownAt 35 = .ok (.aload_n 0, 1) := by decide +kernel
theorem dX1_holesKnownAt_36 : decode cX1_holesKnownAt 36 = .ok (.iload_n 3, 1) := by decide +kernel
theorem dX1_holesKnownAt_37 : decode cX1_holesKnownAt 37 = .ok (.bipush 7, 2) := by decide +kernel
theorem dX1_holesKnownAt_39 : decode cX1_holesKnownAt 39 = .ok (.invokevirtual 60, 3) := by decide +kernel
theorem dX1_holesKnownAt_42 : decode cX1_holesKnownAt 42 = .ok (.ior, 1) := by decide +kernel
theorem dX1_holesKnownAt_43 : decode cX1_holesKnownAt 43 = .ok (.istore_n 2, 1) := by decide +kernel
theorem dX1_holesKnownAt_0 : decode cX1_holesKnownAt 0 = .ok (.iconst 0, 1) := by decide +kernel
theorem dX1_holesKnownAt_1 : decode cX1_holesKnownAt 1 = .ok (.istore_n 2, 1) := by decide +kernel
theorem dX1_holesKnownAt_2 : decode cX1_holesKnownAt 2 = .ok (.iconst 0, 1) := by decide +kernel
theorem dX1_holesKnownAt_3 : decode cX1_holesKnownAt 3 = .ok (.istore_n 3, 1) := by decide +kernel
def D_X1_holesKnownAt_44 (N : Nat) (k4 : mh_H → Nat → Int32 → Int32 → Int32 → Option (Int32 × mh_H)) (h : mh_H) (l0 : Nat) (l1 : Int32) (l2 : Int32) (l3 : Int32) : Option (Int32 × mh_H) :=
  k4 h l0 l1 l2 (l3 + Int32.ofInt (1))
set_option maxHeartbeats 4000000 in
set_option maxRecDepth 100000 in
theorem T_X1_holesKnownAt_44 {P : mh_E → Prop} {N d : Nat} (hd : 3 ≤ d) {z : (Int32 × mh_H)} {k4 : mh_H → Nat → Int32 → Int32 → Int32 → Option (Int32 × mh_H)} (hk4 : ∀ (h : mh_H) (l0 : Nat) (l1 : Int32) (l2 : Int32) (l3 : Int32), k4 h l0 l1 l2 l3 = some z → mh_go P d mX1_holesKnownAt 4 [some (.ref l0), some (.int l1), some (.int l2), some (.int l3)] [] h (some (.int z.1)) z.2) {h : mh_H} {l0 : Nat} {l1 : Int32} {l2 : Int32} {l3 : Int32} (hq : D_X1_holesKnownAt_44 N k4 h l0 l1 l2 l3 = some z) : mh_go P d mX1_holesKnownAt 44 [some (.ref l0), some (.int l1), some (.int l2), some (.int l3)] [] h (some (.int z.1)) z.2 := by
  unfold D_X1_holesKnownAt_44 at hq
  refine st_iinc (pc := 44) (lv' := [some (.ref l0), some (.int l1), some (.int l2), some (.int (l3 + Int32.ofInt (1)))]) dX1_holesKnownAt_44 rfl rfl (by decide) rfl ?_
  refine st_goto (pc := 47) (tgt := 4) dX1_holesKnownAt_47 (by decide) ?_
  exact hk4 _ _ _ _ _ hq
def D_X1_holesKnownAt_4 (N : Nat) : Nat → mh_H → Nat → Int32 → Int32 → Int32 → Option (Int32 × mh_H)
  | 0, _, _, _, _, _ => none
  | F + 1, h, l0, l1, l2, l3 =>
    (gI h 1 l0 1).bind fun v1 =>
    if v1 ≤ l3 then (some (l2, h))
    else (kO h 1 l0 <|
    (D_X1_lookPart N h l0 l3 (0 : Int32)).bind fun q2 =>
    (D_X11_bit N q2.2 l1 q2.1).bind fun q3 =>
    if q3.1 = (1 : Int32) then (kO q3.2 1 l0 <|
    (D_X1_saw N q3.2 l0 l3).bind fun q4 =>
    if q4.1 = 0 then (D_X1_holesKnownAt_44 N (D_X1_holesKnownAt_4 N F) q4.2 l0 l1 l2 l3)
    else (kO q4.2 1 l0 <|
    (D_X1_lookPart N q4.2 l0 l3 (7 : Int32)).bind fun q5 =>
    D_X1_holesKnownAt_44 N (D_X1_holesKnownAt_4 N F) q5.2 l0 l1 (l2 ||| q5.1) l3))
    else (D_X1_holesKnownAt_44 N (D_X1_holesKnownAt_4 N F) q3.2 l0 l1 l2 l3))
set_option maxHeartbeats 4000000 in
set_option maxRecDepth 100000 in
theorem T_X1_holesKnownAt_4 {P : mh_E → Prop} {N d : Nat} (hd : 3 ≤ d) {z : (Int32 × mh_H)} : ∀ (F : Nat) (h : mh_H) (l0 : Nat) (l1 : Int32) (l2 : Int32) (l3 : Int32), D_X1_holesKnownAt_4 N F h l0 l1 l2 l3 = some z → mh_go P d mX1_holesKnownAt 4 [some (.ref l0), some (.int l1), some (.int l2), some (.int l3)] [] h (some (.int z.1)) z.2 := by
  intro F
  induction F with
  | zero => intro h l0 l1 l2 l3 hq; rw [D_X1_holesKnownAt_4] at hq; cases hq
  | succ F ih =>
    intro h l0 l1 l2 l3 hq
    rw [D_X1_holesKnownAt_4] at hq
    refine st_iload_n (pc := 4) dX1_holesKnownAt_4 rfl ?_
    refine st_aload_n (pc := 5) dX1_holesKnownAt_5 rfl ?_
    refine bd_geti (pc := 6) hq dX1_holesKnownAt_6 fl_1_15_1 rfl (fun v1 hq => ?_)
    refine bd_icmp_ge (pc := 9) (tgt := 50) hq dX1_holesKnownAt_9 (by decide) (fun _ hq => ?_) (fun _ hq => ?_)
    ·
      refine st_iload_n (pc := 50) dX1_holesKnownAt_50 rfl ?_
      exact bd_iret (pc := 51) hq dX1_holesKnownAt_51 rfl
    ·
      refine st_iload_n (pc := 12) dX1_holesKnownAt_12 rfl ?_
      refine st_aload_n (pc := 13) dX1_holesKnownAt_13 rfl ?_
      refine st_iload_n (pc := 14) dX1_holesKnownAt_14 rfl ?_
      refine st_iconst (pc := 15) (v := (0 : Int32)) dX1_holesKnownAt_15 rfl ?_
      obtain ⟨⟨hbq2, hkq2⟩, hq⟩ := mh_oi hq
      obtain ⟨q2, e2, hq⟩ := mh_ob hq
      refine st_invV (pc := 16) (ci := 1) (vs := [.int l3, .int (0 : Int32)]) (rest := [.int l1]) (st2 := [.int q2.1, .int l1]) dX1_holesKnownAt_16 okX1_lookPart (by decide) hkq2 hbq2 wd_883 wd_884 wd_885 pdX1_lookPart rfl rfl rfl rfl (Nat.le_trans (by decide) hd) (Nat.le_of_ble_eq_true rfl) (T_X1_lookPart (Nat.le_refl _) e2) rfl ?_
      obtain ⟨q3, e3, hq⟩ := mh_ob hq
      refine st_invSN (pc := 19) (Y := mX11_bit) (vs := [.int l1, .int q2.1]) (rest := []) (st2 := [.int q3.1]) dX1_holesKnownAt_19 okX11_bit wn_891 wd_344 pdX11_bit rfl rfl rfl rfl (Nat.le_trans (by decide) hd) (Nat.le_of_ble_eq_true rfl) (T_X11_bit (Nat.le_refl _) e3) rfl ?_
      refine st_iconst (pc := 22) (v := (1 : Int32)) dX1_holesKnownAt_22 rfl ?_
      refine bd_icmp_ne (pc := 23) (tgt := 44) hq dX1_holesKnownAt_23 (by decide) (fun _ hq => ?_) (fun _ hq => ?_)
      ·
        refine st_aload_n (pc := 26) dX1_holesKnownAt_26 rfl ?_
        refine st_iload_n (pc := 27) dX1_holesKnownAt_27 rfl ?_
        obtain ⟨⟨hbq4, hkq4⟩, hq⟩ := mh_oi hq
        obtain ⟨q4, e4, hq⟩ := mh_ob hq
        refine st_invV (pc := 28) (ci := 1) (vs := [.int l3]) (rest := []) (st2 := [.int q4.1]) dX1_holesKnownAt_28 okX1_saw (by decide) hkq4 hbq4 wd_892 wd_894 wp_27 pdX1_saw rfl rfl rfl rfl (Nat.le_trans (by decide) hd) (Nat.le_of_ble_eq_true rfl) (T_X1_saw (Nat.le_refl _) e4) rfl ?_
        refine bd_if_eq (pc := 31) (tgt := 44) hq dX1_holesKnownAt_31 (by decide) (fun _ hq => ?_) (fun _ hq => ?_)
        ·
          exact T_X1_holesKnownAt_44 hd ih hq
        ·
          refine st_iload_n (pc := 34) dX1_holesKnownAt_34 rfl ?_
          refine st_aload_n (pc := 35) dX1_holesKnownAt_35 rfl ?_
          refine st_iload_n (pc := 36) dX1_holesKnownAt_36 rfl ?_
          refine st_bipush (pc := 37) (v := (7 : Int32)) dX1_holesKnownAt_37 (by decide) ?_
          obtain ⟨⟨hbq5, hkq5⟩, hq⟩ := mh_oi hq
          obtain ⟨q5, e5, hq⟩ := mh_ob hq
          refine st_invV (pc := 39) (ci := 1) (vs := [.int l3, .int (7 : Int32)]) (rest := [.int l2]) (st2 := [.int q5.1, .int l2]) dX1_holesKnownAt_39 okX1_lookPart (by decide) hkq5 hbq5 wd_883 wd_884 wd_885 pdX1_lookPart rfl rfl rfl rfl (Nat.le_trans (by decide) hd) (Nat.le_of_ble_eq_true rfl) (T_X1_lookPart (Nat.le_refl _) e5) rfl ?_
          refine st_ior (pc := 42) dX1_holesKnownAt_42 ?_
          refine st_istore_n (pc := 43) (lv' := [some (.ref l0), some (.int l1), some (.int (l2 ||| q5.1)), some (.int l3)]) dX1_holesKnownAt_43 rfl (by decide) rfl ?_
          exact T_X1_holesKnownAt_44 hd ih hq
      ·
        exact T_X1_holesKnownAt_44 hd ih hq
def D_X1_holesKnownAt (N : Nat) (h : mh_H) (l0 : Nat) (l1 : Int32) : Option (Int32 × mh_H) :=
  D_X1_holesKnownAt_4 N N h l0 l1 (0 : Int32) (0 : Int32)
set_option maxHeartbeats 4000000 in
set_option maxRecDepth 100000 in
theorem T_X1_holesKnownAt {P : mh_E → Prop} {N d : Nat} (hd : 3 ≤ d) {z : (Int32 × mh_H)} {h : mh_H} {l0 : Nat} {l1 : Int32} (hq : D_X1_holesKnownAt N h l0 l1 = some z) : mh_go P d mX1_holesKnownAt 0 [some (.ref l0), some (.int l1), none, none] [] h (some (.int z.1)) z.2 := by
  unfold D_X1_holesKnownAt at hq
  refine st_iconst (pc := 0) (v := (0 : Int32)) dX1_holesKnownAt_0 rfl ?_
  refine st_istore_n (pc := 1) (lv' := [some (.ref l0), some (.int l1), some (.int (0 : Int32)), none]) dX1_holesKnownAt_1 rfl (by decide) rfl ?_
  refine st_iconst (pc := 2) (v := (0 : Int32)) dX1_holesKnownAt_2 rfl ?_
  refine st_istore_n (pc := 3) (lv' := [some (.ref l0), some (.int l1), some (.int (0 : Int32)), some (.int (0 : Int32))]) dX1_holesKnownAt_3 rfl (by decide) rfl ?_
  exact T_X1_holesKnownAt_4 hd N _ _ _ _ _ hq
-- HoleWater$Looks.holesLookedFor(I)I
theorem dX1_holesLookedFor_32 : decode cX1_holesLookedFor 32 = .ok (.iinc 3 1, 3) := by decide +kernel
theorem dX1_holesLookedFor_35 : decode cX1_holesLookedFor 35 = .ok (.goto (-31), 3) := by decide +kernel
theorem dX1_holesLookedFor_4 : decode cX1_holesLookedFor 4 = .ok (.iload_n 3, 1) := by decide +kernel
theorem dX1_holesLookedFor_5 : decode cX1_holesLookedFor 5 = .ok (.aload_n 0, 1) := by decide +kernel
theorem dX1_holesLookedFor_6 : decode cX1_holesLookedFor 6 = .ok (.getfield 15, 3) := by decide +kernel
theorem dX1_holesLookedFor_9 : decode cX1_holesLookedFor 9 = .ok (.if_icmp .ge 29, 3) := by decide +kernel
theorem dX1_holesLookedFor_38 : decode cX1_holesLookedFor 38 = .ok (.iload_n 2, 1) := by decide +kernel
theorem dX1_holesLookedFor_39 : decode cX1_holesLookedFor 39 = .ok (.ireturn, 1) := by decide +kernel
theorem dX1_holesLookedFor_12 : decode cX1_holesLookedFor 12 = .ok (.aload_n 0, 1) := by decide +kernel
theorem dX1_holesLookedFor_13 : decode cX1_holesLookedFor 13 = .ok (.iload_n 3, 1) := by decide +kernel
theorem dX1_holesLookedFor_14 : decode cX1_holesLookedFor 14 = .ok (.iconst 0, 1) := by decide +kernel
theorem dX1_holesLookedFor_15 : decode cX1_holesLookedFor 15 = .ok (.invokevirtual 60, 3) := by decide +kernel
theorem dX1_holesLookedFor_18 : decode cX1_holesLookedFor 18 = .ok (.iload_n 1, 1) := by decide +kernel
theorem dX1_holesLookedFor_19 : decode cX1_holesLookedFor 19 = .ok (.if_icmp .ne 13, 3) := by decide +kernel
theorem dX1_holesLookedFor_22 : decode cX1_holesLookedFor 22 = .ok (.iload_n 2, 1) := by decide +kernel
theorem dX1_holesLookedFor_23 : decode cX1_holesLookedFor 23 = .ok (.aload_n 0, 1) := by decide +kernel
theorem dX1_holesLookedFor_24 : decode cX1_holesLookedFor 24 = .ok (.iload_n 3, 1) := by decide +kernel
theorem dX1_holesLookedFor_25 : decode cX1_holesLookedFor 25 = .ok (.bipush 7, 2) := by decide +kernel
theorem dX1_holesLookedFor_27 : decode cX1_holesLookedFor 27 = .ok (.invokevirtual 60, 3) := by decide +kernel
theorem dX1_holesLookedFor_30 : decode cX1_holesLookedFor 30 = .ok (.ior, 1) := by decide +kernel
theorem dX1_holesLookedFor_31 : decode cX1_holesLookedFor 31 = .ok (.istore_n 2, 1) := by decide +kernel
theorem dX1_holesLookedFor_0 : decode cX1_holesLookedFor 0 = .ok (.iconst 0, 1) := by decide +kernel
theorem dX1_holesLookedFor_1 : decode cX1_holesLookedFor 1 = .ok (.istore_n 2, 1) := by decide +kernel
theorem dX1_holesLookedFor_2 : decode cX1_holesLookedFor 2 = .ok (.iconst 0, 1) := by decide +kernel
theorem dX1_holesLookedFor_3 : decode cX1_holesLookedFor 3 = .ok (.istore_n 3, 1) := by decide +kernel
def D_X1_holesLookedFor_32 (N : Nat) (k4 : mh_H → Nat → Int32 → Int32 → Int32 → Option (Int32 × mh_H)) (h : mh_H) (l0 : Nat) (l1 : Int32) (l2 : Int32) (l3 : Int32) : Option (Int32 × mh_H) :=
  k4 h l0 l1 l2 (l3 + Int32.ofInt (1))
set_option maxHeartbeats 4000000 in
set_option maxRecDepth 100000 in
theorem T_X1_holesLookedFor_32 {P : mh_E → Prop} {N d : Nat} (hd : 2 ≤ d) {z : (Int32 × mh_H)} {k4 : mh_H → Nat → Int32 → Int32 → Int32 → Option (Int32 × mh_H)} (hk4 : ∀ (h : mh_H) (l0 : Nat) (l1 : Int32) (l2 : Int32) (l3 : Int32), k4 h l0 l1 l2 l3 = some z → mh_go P d mX1_holesLookedFor 4 [some (.ref l0), some (.int l1), some (.int l2), some (.int l3)] [] h (some (.int z.1)) z.2) {h : mh_H} {l0 : Nat} {l1 : Int32} {l2 : Int32} {l3 : Int32} (hq : D_X1_holesLookedFor_32 N k4 h l0 l1 l2 l3 = some z) : mh_go P d mX1_holesLookedFor 32 [some (.ref l0), some (.int l1), some (.int l2), some (.int l3)] [] h (some (.int z.1)) z.2 := by
  unfold D_X1_holesLookedFor_32 at hq
  refine st_iinc (pc := 32) (lv' := [some (.ref l0), some (.int l1), some (.int l2), some (.int (l3 + Int32.ofInt (1)))]) dX1_holesLookedFor_32 rfl rfl (by decide) rfl ?_
  refine st_goto (pc := 35) (tgt := 4) dX1_holesLookedFor_35 (by decide) ?_
  exact hk4 _ _ _ _ _ hq
def D_X1_holesLookedFor_4 (N : Nat) : Nat → mh_H → Nat → Int32 → Int32 → Int32 → Option (Int32 × mh_H)
  | 0, _, _, _, _, _ => none
  | F + 1, h, l0, l1, l2, l3 =>
    (gI h 1 l0 1).bind fun v1 =>
    if v1 ≤ l3 then (some (l2, h))
    else (kO h 1 l0 <|
    (D_X1_lookPart N h l0 l3 (0 : Int32)).bind fun q2 =>
    if q2.1 = l1 then (kO q2.2 1 l0 <|
    (D_X1_lookPart N q2.2 l0 l3 (7 : Int32)).bind fun q3 =>
    D_X1_holesLookedFor_32 N (D_X1_holesLookedFor_4 N F) q3.2 l0 l1 (l2 ||| q3.1) l3)
    else (D_X1_holesLookedFor_32 N (D_X1_holesLookedFor_4 N F) q2.2 l0 l1 l2 l3))
set_option maxHeartbeats 4000000 in
set_option maxRecDepth 100000 in
theorem T_X1_holesLookedFor_4 {P : mh_E → Prop} {N d : Nat} (hd : 2 ≤ d) {z : (Int32 × mh_H)} : ∀ (F : Nat) (h : mh_H) (l0 : Nat) (l1 : Int32) (l2 : Int32) (l3 : Int32), D_X1_holesLookedFor_4 N F h l0 l1 l2 l3 = some z → mh_go P d mX1_holesLookedFor 4 [some (.ref l0), some (.int l1), some (.int l2), some (.int l3)] [] h (some (.int z.1)) z.2 := by
  intro F
  induction F with
  | zero => intro h l0 l1 l2 l3 hq; rw [D_X1_holesLookedFor_4] at hq; cases hq
  | succ F ih =>
    intro h l0 l1 l2 l3 hq
    rw [D_X1_holesLookedFor_4] at hq
    refine st_iload_n (pc := 4) dX1_holesLookedFor_4 rfl ?_
    refine st_aload_n (pc := 5) dX1_holesLookedFor_5 rfl ?_
    refine bd_geti (pc := 6) hq dX1_holesLookedFor_6 fl_1_15_1 rfl (fun v1 hq => ?_)
    refine bd_icmp_ge (pc := 9) (tgt := 38) hq dX1_holesLookedFor_9 (by decide) (fun _ hq => ?_) (fun _ hq => ?_)
    ·
      refine st_iload_n (pc := 38) dX1_holesLookedFor_38 rfl ?_
      exact bd_iret (pc := 39) hq dX1_holesLookedFor_39 rfl
    ·
      refine st_aload_n (pc := 12) dX1_holesLookedFor_12 rfl ?_
      refine st_iload_n (pc := 13) dX1_holesLookedFor_13 rfl ?_
      refine st_iconst (pc := 14) (v := (0 : Int32)) dX1_holesLookedFor_14 rfl ?_
      obtain ⟨⟨hbq2, hkq2⟩, hq⟩ := mh_oi hq
      obtain ⟨q2, e2, hq⟩ := mh_ob hq
      refine st_invV (pc := 15) (ci := 1) (vs := [.int l3, .int (0 : Int32)]) (rest := []) (st2 := [.int q2.1]) dX1_holesLookedFor_15 okX1_lookPart (by decide) hkq2 hbq2 wd_883 wd_884 wd_885 pdX1_lookPart rfl rfl rfl rfl (Nat.le_trans (by decide) hd) (Nat.le_of_ble_eq_true rfl) (T_X1_lookPart (Nat.le_refl _) e2) rfl ?_
      refine st_iload_n (pc := 18) dX1_holesLookedFor_18 rfl ?_
      refine bd_icmp_ne (pc := 19) (tgt := 32) hq dX1_holesLookedFor_19 (by decide) (fun _ hq => ?_) (fun _ hq => ?_)
      ·
        refine st_iload_n (pc := 22) dX1_holesLookedFor_22 rfl ?_
        refine st_aload_n (pc := 23) dX1_holesLookedFor_23 rfl ?_
        refine st_iload_n (pc := 24) dX1_holesLookedFor_24 rfl ?_
        refine st_bipush (pc := 25) (v := (7 : Int32)) dX1_holesLookedFor_25 (by decide) ?_
        obtain ⟨⟨hbq3, hkq3⟩, hq⟩ := mh_oi hq
        obtain ⟨q3, e3, hq⟩ := mh_ob hq
        refine st_invV (pc := 27) (ci := 1) (vs := [.int l3, .int (7 : Int32)]) (rest := [.int l2]) (st2 := [.int q3.1, .int l2]) dX1_holesLookedFor_27 okX1_lookPart (by decide) hkq3 hbq3 wd_883 wd_884 wd_885 pdX1_lookPart rfl rfl rfl rfl (Nat.le_trans (by decide) hd) (Nat.le_of_ble_eq_true rfl) (T_X1_lookPart (Nat.le_refl _) e3) rfl ?_
        refine st_ior (pc := 30) dX1_holesLookedFor_30 ?_
        refine st_istore_n (pc := 31) (lv' := [some (.ref l0), some (.int l1), some (.int (l2 ||| q3.1)), some (.int l3)]) dX1_holesLookedFor_31 rfl (by decide) rfl ?_
        exact T_X1_holesLookedFor_32 hd ih hq
      ·
        exact T_X1_holesLookedFor_32 hd ih hq
def D_X1_holesLookedFor (N : Nat) (h : mh_H) (l0 : Nat) (l1 : Int32) : Option (Int32 × mh_H) :=
  D_X1_holesLookedFor_4 N N h l0 l1 (0 : Int32) (0 : Int32)
set_option maxHeartbeats 4000000 in
set_option maxRecDepth 100000 in
theorem T_X1_holesLookedFor {P : mh_E → Prop} {N d : Nat} (hd : 2 ≤ d) {z : (Int32 × mh_H)} {h : mh_H} {l0 : Nat} {l1 : Int32} (hq : D_X1_holesLookedFor N h l0 l1 = some z) : mh_go P d mX1_holesLookedFor 0 [some (.ref l0), some (.int l1), none, none] [] h (some (.int z.1)) z.2 := by
  unfold D_X1_holesLookedFor at hq
  refine st_iconst (pc := 0) (v := (0 : Int32)) dX1_holesLookedFor_0 rfl ?_
  refine st_istore_n (pc := 1) (lv' := [some (.ref l0), some (.int l1), some (.int (0 : Int32)), none]) dX1_holesLookedFor_1 rfl (by decide) rfl ?_
  refine st_iconst (pc := 2) (v := (0 : Int32)) dX1_holesLookedFor_2 rfl ?_
  refine st_istore_n (pc := 3) (lv' := [some (.ref l0), some (.int l1), some (.int (0 : Int32)), some (.int (0 : Int32))]) dX1_holesLookedFor_3 rfl (by decide) rfl ?_
  exact T_X1_holesLookedFor_4 hd N _ _ _ _ _ hq
-- HoleWater$Looks.planSprings(III)V
theorem dX1_planSprings_81 : decode cX1_planSprings 81 = .ok (.iinc 8 1, 3) := by decide +kernel
theorem dX1_planSprings_84 : decode cX1_planSprings 84 = .ok (.goto (-61), 3) := by decide +kernel
theorem dX1_planSprings_87 : decode cX1_planSprings 87 = .ok (.iinc 7 (-1), 3) := by decide +kernel
theorem dX1_planSprings_90 : decode cX1_planSprings 90 = .ok (.goto (-75), 3) := by decide +kernel
theorem dX1_planSprings_23 : decode cX1_planSprings 23 = .ok (.iload 8, 2) := by decide +kernel
theorem dX1_planSprings_25 : decode cX1_planSprings 25 = .ok (.bipush 16, 2) := by decide +kernel
theorem dX1_planSprings_27 : decode cX1_planSprings 27 = .ok (.if_icmp .ge 60, 3) := by decide +kernel
theorem dX1_planSprings_30 : decode cX1_planSprings 30 = .ok (.iload 6, 2) := by decide +kernel
theorem dX1_planSprings_32 : decode cX1_planSprings 32 = .ok (.ifCond .le 55, 3) := by decide +kernel
theorem dX1_planSprings_35 : decode cX1_planSprings 35 = .ok (.iload_n 2, 1) := by decide +kernel
theorem dX1_planSprings_36 : decode cX1_planSprings 36 = .ok (.iload 8, 2) := by decide +kernel
theorem dX1_planSprings_38 : decode cX1_planSprings 38 = .ok (.invokestatic 63, 3) := by decide +kernel
theorem dX1_planSprings_41 : decode cX1_planSprings 41 = .ok (.iconst 1, 1) := by decide +kernel
theorem dX1_planSprings_42 : decode cX1_planSprings 42 = .ok (.if_icmp .ne 39, 3) := by decide +kernel
theorem dX1_planSprings_45 : decode cX1_planSprings 45 = .ok (.iload_n 1, 1) := by decide +kernel
theorem dX1_planSprings_46 : decode cX1_planSprings 46 = .ok (.aload_n 0, 1) := by decide +kernel
theorem dX1_planSprings_47 : decode cX1_planSprings 47 = .ok (.getfield 28, 3) := by decide +kernel
theorem dX1_planSprings_50 : decode cX1_planSprings 50 = .ok (.iload 8, 2) := by decide +kernel
theorem dX1_planSprings_52 : decode cX1_planSprings 52 = .ok (.iaload, 1) := by decide +kernel
theorem dX1_planSprings_53 : decode cX1_planSprings 53 = .ok (.iand, 1) := by decide +kernel
theorem dX1_planSprings_54 : decode cX1_planSprings 54 = .ok (.invokestatic 89, 3) := by decide +kernel
theorem dX1_planSprings_57 : decode cX1_planSprings 57 = .ok (.iload 7, 2) := by decide +kernel
theorem dX1_planSprings_59 : decode cX1_planSprings 59 = .ok (.if_icmp .ne 22, 3) := by decide +kernel
theorem dX1_planSprings_62 : decode cX1_planSprings 62 = .ok (.iload 5, 2) := by decide +kernel
theorem dX1_planSprings_64 : decode cX1_planSprings 64 = .ok (.iconst 1, 1) := by decide +kernel
theorem dX1_planSprings_65 : decode cX1_planSprings 65 = .ok (.iload 8, 2) := by decide +kernel
theorem dX1_planSprings_67 : decode cX1_planSprings 67 = .ok (.ishl, 1) := by decide +kernel
theorem dX1_planSprings_68 : decode cX1_planSprings 68 = .ok (.ior, 1) := by decide +kernel
theorem dX1_planSprings_69 : decode cX1_planSprings 69 = .ok (.istore 5, 2) := by decide +kernel
theorem dX1_planSprings_71 : decode cX1_planSprings 71 = .ok (.iload 4, 2) := by decide +kernel
theorem dX1_planSprings_73 : decode cX1_planSprings 73 = .ok (.iload 7, 2) := by decide +kernel
theorem dX1_planSprings_75 : decode cX1_planSprings 75 = .ok (.iadd, 1) := by decide +kernel
theorem dX1_planSprings_76 : decode cX1_planSprings 76 = .ok (.istore 4, 2) := by decide +kernel
theorem dX1_planSprings_78 : decode cX1_planSprings 78 = .ok (.iinc 6 (-1), 3) := by decide +kernel
theorem dX1_planSprings_15 : decode cX1_planSprings 15 = .ok (.iload 7, 2) := by decide +kernel
theorem dX1_planSprings_17 : decode cX1_planSprings 17 = .ok (.ifCond .lt 76, 3) := by decide +kernel
theorem dX1_planSprings_93 : decode cX1_planSprings 93 = .ok (.iload 4, 2) := by decide +kernel
theorem dX1_planSprings_95 : decode cX1_planSprings 95 = .ok (.aload_n 0, 1) := by decide +kernel
theorem dX1_planSprings_96 : decode cX1_planSprings 96 = .ok (.getfield 25, 3) := by decide +kernel
theorem dX1_planSprings_99 : decode cX1_planSprings 99 = .ok (.iconst 0, 1) := by decide +kernel
theorem dX1_planSprings_100 : decode cX1_planSprings 100 = .ok (.iaload, 1) := by decide +kernel
theorem dX1_planSprings_101 : decode cX1_planSprings 101 = .ok (.if_icmp .le 26, 3) := by decide +kernel
theorem dX1_planSprings_127 : decode cX1_planSprings 127 = .ok (.return_, 1) := by decide +kernel
theorem dX1_planSprings_104 : decode cX1_planSprings 104 = .ok (.aload_n 0, 1) := by decide +kernel
theorem dX1_planSprings_105 : decode cX1_planSprings 105 = .ok (.getfield 25, 3) := by decide +kernel
theorem dX1_planSprings_108 : decode cX1_planSprings 108 = .ok (.iconst 0, 1) := by decide +kernel
theorem dX1_planSprings_109 : decode cX1_planSprings 109 = .ok (.iload 4, 2) := by decide +kernel
theorem dX1_planSprings_111 : decode cX1_planSprings 111 = .ok (.iastore, 1) := by decide +kernel
theorem dX1_planSprings_112 : decode cX1_planSprings 112 = .ok (.aload_n 0, 1) := by decide +kernel
theorem dX1_planSprings_113 : decode cX1_planSprings 113 = .ok (.getfield 25, 3) := by decide +kernel
theorem dX1_planSprings_116 : decode cX1_planSprings 116 = .ok (.iconst 1, 1) := by decide +kernel
theorem dX1_planSprings_117 : decode cX1_planSprings 117 = .ok (.iload_n 1, 1) := by decide +kernel
theorem dX1_planSprings_118 : decode cX1_planSprings 118 = .ok (.iastore, 1) := by decide +kernel
theorem dX1_planSprings_119 : decode cX1_planSprings 119 = .ok (.aload_n 0, 1) := by decide +kernel
theorem dX1_planSprings_120 : decode cX1_planSprings 120 = .ok (.getfield 25, 3) := by decide +kernel
theorem dX1_planSprings_123 : decode cX1_planSprings 123 = .ok (.iconst 2, 1) := by decide +kernel
theorem dX1_planSprings_124 : decode cX1_planSprings 124 = .ok (.iload 5, 2) := by decide +kernel
theorem dX1_planSprings_126 : decode cX1_planSprings 126 = .ok (.iastore, 1) := by decide +kernel
theorem dX1_planSprings_20 : decode cX1_planSprings 20 = .ok (.iconst 0, 1) := by decide +kernel
theorem dX1_planSprings_21 : decode cX1_planSprings 21 = .ok (.istore 8, 2) := by decide +kernel
theorem dX1_planSprings_0 : decode cX1_planSprings 0 = .ok (.iconst 0, 1) := by decide +kernel
theorem dX1_planSprings_1 : decode cX1_planSprings 1 = .ok (.istore 4, 2) := by decide +kernel
theorem dX1_planSprings_3 : decode cX1_planSprings 3 = .ok (.iconst 0, 1) := by decide +kernel
theorem dX1_planSprings_4 : decode cX1_planSprings 4 = .ok (.istore 5, 2) := by decide +kernel
theorem dX1_planSprings_6 : decode cX1_planSprings 6 = .ok (.iload_n 3, 1) := by decide +kernel
theorem dX1_planSprings_7 : decode cX1_planSprings 7 = .ok (.istore 6, 2) := by decide +kernel
theorem dX1_planSprings_9 : decode cX1_planSprings 9 = .ok (.iload_n 1, 1) := by decide +kernel
theorem dX1_planSprings_10 : decode cX1_planSprings 10 = .ok (.invokestatic 89, 3) := by decide +kernel
theorem dX1_planSprings_13 : decode cX1_planSprings 13 = .ok (.istore 7, 2) := by decide +kernel
def D_X1_planSprings_81 (N : Nat) (k15 : mh_H → Nat → Int32 → Int32 → Int32 → Int32 → Int32 → Int32 → Option mh_H) (k23 : mh_H → Nat → Int32 → Int32 → Int32 → Int32 → Int32 → Int32 → Int32 → Option mh_H) (h : mh_H) (l0 : Nat) (l1 : Int32) (l2 : Int32) (l4 : Int32) (l5 : Int32) (l6 : Int32) (l7 : Int32) (l8 : Int32) : Option mh_H :=
  k23 h l0 l1 l2 l4 l5 l6 l7 (l8 + Int32.ofInt (1))
set_option maxHeartbeats 4000000 in
set_option maxRecDepth 100000 in
theorem T_X1_planSprings_81 {P : mh_E → Prop} {N d : Nat} (hd : 2 ≤ d) {z : mh_H} {k15 : mh_H → Nat → Int32 → Int32 → Int32 → Int32 → Int32 → Int32 → Option mh_H} (hk15 : ∀ (h : mh_H) (l0 : Nat) (l1 : Int32) (l2 : Int32) (l4 : Int32) (l5 : Int32) (l6 : Int32) (l7 : Int32), k15 h l0 l1 l2 l4 l5 l6 l7 = some z → mh_go P d mX1_planSprings 15 [some (.ref l0), some (.int l1), some (.int l2), none, some (.int l4), some (.int l5), some (.int l6), some (.int l7), none] [] h none z) {k23 : mh_H → Nat → Int32 → Int32 → Int32 → Int32 → Int32 → Int32 → Int32 → Option mh_H} (hk23 : ∀ (h : mh_H) (l0 : Nat) (l1 : Int32) (l2 : Int32) (l4 : Int32) (l5 : Int32) (l6 : Int32) (l7 : Int32) (l8 : Int32), k23 h l0 l1 l2 l4 l5 l6 l7 l8 = some z → mh_go P d mX1_planSprings 23 [some (.ref l0), some (.int l1), some (.int l2), none, some (.int l4), some (.int l5), some (.int l6), some (.int l7), some (.int l8)] [] h none z) {h : mh_H} {l0 : Nat} {l1 : Int32} {l2 : Int32} {l4 : Int32} {l5 : Int32} {l6 : Int32} {l7 : Int32} {l8 : Int32} (hq : D_X1_planSprings_81 N k15 k23 h l0 l1 l2 l4 l5 l6 l7 l8 = some z) : mh_go P d mX1_planSprings 81 [some (.ref l0), some (.int l1), some (.int l2), none, some (.int l4), some (.int l5), some (.int l6), some (.int l7), some (.int l8)] [] h none z := by
  unfold D_X1_planSprings_81 at hq
  refine st_iinc (pc := 81) (lv' := [some (.ref l0), some (.int l1), some (.int l2), none, some (.int l4), some (.int l5), some (.int l6), some (.int l7), some (.int (l8 + Int32.ofInt (1)))]) dX1_planSprings_81 rfl rfl (by decide) rfl ?_
  refine st_goto (pc := 84) (tgt := 23) dX1_planSprings_84 (by decide) ?_
  exact hk23 _ _ _ _ _ _ _ _ _ hq
def D_X1_planSprings_87 (N : Nat) (k15 : mh_H → Nat → Int32 → Int32 → Int32 → Int32 → Int32 → Int32 → Option mh_H) (h : mh_H) (l0 : Nat) (l1 : Int32) (l2 : Int32) (l4 : Int32) (l5 : Int32) (l6 : Int32) (l7 : Int32) : Option mh_H :=
  k15 h l0 l1 l2 l4 l5 l6 (l7 + Int32.ofInt (-1))
set_option maxHeartbeats 4000000 in
set_option maxRecDepth 100000 in
theorem T_X1_planSprings_87 {P : mh_E → Prop} {N d : Nat} (hd : 2 ≤ d) {z : mh_H} {k15 : mh_H → Nat → Int32 → Int32 → Int32 → Int32 → Int32 → Int32 → Option mh_H} (hk15 : ∀ (h : mh_H) (l0 : Nat) (l1 : Int32) (l2 : Int32) (l4 : Int32) (l5 : Int32) (l6 : Int32) (l7 : Int32), k15 h l0 l1 l2 l4 l5 l6 l7 = some z → mh_go P d mX1_planSprings 15 [some (.ref l0), some (.int l1), some (.int l2), none, some (.int l4), some (.int l5), some (.int l6), some (.int l7), none] [] h none z) {h : mh_H} {l0 : Nat} {l1 : Int32} {l2 : Int32} {l4 : Int32} {l5 : Int32} {l6 : Int32} {l7 : Int32} (hq : D_X1_planSprings_87 N k15 h l0 l1 l2 l4 l5 l6 l7 = some z) : mh_go P d mX1_planSprings 87 [some (.ref l0), some (.int l1), some (.int l2), none, some (.int l4), some (.int l5), some (.int l6), some (.int l7), none] [] h none z := by
  unfold D_X1_planSprings_87 at hq
  refine st_iinc (pc := 87) (lv' := [some (.ref l0), some (.int l1), some (.int l2), none, some (.int l4), some (.int l5), some (.int l6), some (.int (l7 + Int32.ofInt (-1))), none]) dX1_planSprings_87 rfl rfl (by decide) rfl ?_
  refine st_goto (pc := 90) (tgt := 15) dX1_planSprings_90 (by decide) ?_
  exact hk15 _ _ _ _ _ _ _ _ hq
def D_X1_planSprings_23 (N : Nat) (k15 : mh_H → Nat → Int32 → Int32 → Int32 → Int32 → Int32 → Int32 → Option mh_H) : Nat → mh_H → Nat → Int32 → Int32 → Int32 → Int32 → Int32 → Int32 → Int32 → Option mh_H
  | 0, _, _, _, _, _, _, _, _, _ => none
  | F + 1, h, l0, l1, l2, l4, l5, l6, l7, l8 =>
    if (16 : Int32) ≤ l8 then (D_X1_planSprings_87 N k15 h l0 l1 l2 l4 l5 l6 l7)
    else (if l6 ≤ 0 then (D_X1_planSprings_87 N k15 h l0 l1 l2 l4 l5 l6 l7)
    else ((D_X11_bit N h l2 l8).bind fun q1 =>
    if q1.1 = (1 : Int32) then ((gR q1.2 1 l0 5).bind fun v2 =>
    (aI q1.2 v2 l8).bind fun v3 =>
    (D_J6_bitCount_0f7a4 N q1.2 (l1 &&& v3)).bind fun q4 =>
    if q4.1 = l7 then (D_X1_planSprings_81 N k15 (D_X1_planSprings_23 N k15 F) q4.2 l0 l1 l2 (l4 + l7) (l5 ||| ((1 : Int32) <<< (l8 &&& 31))) (l6 + Int32.ofInt (-1)) l7 l8)
    else (D_X1_planSprings_81 N k15 (D_X1_planSprings_23 N k15 F) q4.2 l0 l1 l2 l4 l5 l6 l7 l8))
    else (D_X1_planSprings_81 N k15 (D_X1_planSprings_23 N k15 F) q1.2 l0 l1 l2 l4 l5 l6 l7 l8)))
set_option maxHeartbeats 4000000 in
set_option maxRecDepth 100000 in
theorem T_X1_planSprings_23 {P : mh_E → Prop} {N d : Nat} (hd : 2 ≤ d) {z : mh_H} {k15 : mh_H → Nat → Int32 → Int32 → Int32 → Int32 → Int32 → Int32 → Option mh_H} (hk15 : ∀ (h : mh_H) (l0 : Nat) (l1 : Int32) (l2 : Int32) (l4 : Int32) (l5 : Int32) (l6 : Int32) (l7 : Int32), k15 h l0 l1 l2 l4 l5 l6 l7 = some z → mh_go P d mX1_planSprings 15 [some (.ref l0), some (.int l1), some (.int l2), none, some (.int l4), some (.int l5), some (.int l6), some (.int l7), none] [] h none z) : ∀ (F : Nat) (h : mh_H) (l0 : Nat) (l1 : Int32) (l2 : Int32) (l4 : Int32) (l5 : Int32) (l6 : Int32) (l7 : Int32) (l8 : Int32), D_X1_planSprings_23 N k15 F h l0 l1 l2 l4 l5 l6 l7 l8 = some z → mh_go P d mX1_planSprings 23 [some (.ref l0), some (.int l1), some (.int l2), none, some (.int l4), some (.int l5), some (.int l6), some (.int l7), some (.int l8)] [] h none z := by
  intro F
  induction F with
  | zero => intro h l0 l1 l2 l4 l5 l6 l7 l8 hq; rw [D_X1_planSprings_23] at hq; cases hq
  | succ F ih =>
    intro h l0 l1 l2 l4 l5 l6 l7 l8 hq
    rw [D_X1_planSprings_23] at hq
    refine st_iload (pc := 23) dX1_planSprings_23 rfl ?_
    refine st_bipush (pc := 25) (v := (16 : Int32)) dX1_planSprings_25 (by decide) ?_
    refine bd_icmp_ge (pc := 27) (tgt := 87) hq dX1_planSprings_27 (by decide) (fun _ hq => ?_) (fun _ hq => ?_)
    ·
      refine st_lesS (lv' := [some (.ref l0), some (.int l1), some (.int l2), none, some (.int l4), some (.int l5), some (.int l6), some (.int l7), none]) ⟨Or.inr rfl, Or.inr rfl, Or.inr rfl, Or.inr rfl, Or.inr rfl, Or.inr rfl, Or.inr rfl, Or.inr rfl, Or.inl rfl, trivial⟩ ?_
      exact T_X1_planSprings_87 hd hk15 hq
    ·
      refine st_iload (pc := 30) dX1_planSprings_30 rfl ?_
      refine bd_if_le (pc := 32) (tgt := 87) hq dX1_planSprings_32 (by decide) (fun _ hq => ?_) (fun _ hq => ?_)
      ·
        refine st_lesS (lv' := [some (.ref l0), some (.int l1), some (.int l2), none, some (.int l4), some (.int l5), some (.int l6), some (.int l7), none]) ⟨Or.inr rfl, Or.inr rfl, Or.inr rfl, Or.inr rfl, Or.inr rfl, Or.inr rfl, Or.inr rfl, Or.inr rfl, Or.inl rfl, trivial⟩ ?_
        exact T_X1_planSprings_87 hd hk15 hq
      ·
        refine st_iload_n (pc := 35) dX1_planSprings_35 rfl ?_
        refine st_iload (pc := 36) dX1_planSprings_36 rfl ?_
        obtain ⟨q1, e1, hq⟩ := mh_ob hq
        refine st_invSN (pc := 38) (Y := mX11_bit) (vs := [.int l2, .int l8]) (rest := []) (st2 := [.int q1.1]) dX1_planSprings_38 okX11_bit wn_891 wd_344 pdX11_bit rfl rfl rfl rfl (Nat.le_trans (by decide) hd) (Nat.le_of_ble_eq_true rfl) (T_X11_bit (Nat.le_refl _) e1) rfl ?_
        refine st_iconst (pc := 41) (v := (1 : Int32)) dX1_planSprings_41 rfl ?_
        refine bd_icmp_ne (pc := 42) (tgt := 81) hq dX1_planSprings_42 (by decide) (fun _ hq => ?_) (fun _ hq => ?_)
        ·
          refine st_iload_n (pc := 45) dX1_planSprings_45 rfl ?_
          refine st_aload_n (pc := 46) dX1_planSprings_46 rfl ?_
          refine bd_getr (pc := 47) hq dX1_planSprings_47 fl_1_28_1 rfl (fun v2 hq => ?_)
          refine st_iload (pc := 50) dX1_planSprings_50 rfl ?_
          refine bd_iald (pc := 52) hq dX1_planSprings_52 (fun v3 hq => ?_)
          refine st_iand (pc := 53) dX1_planSprings_53 ?_
          obtain ⟨q4, e4, hq⟩ := mh_ob hq
          refine st_invS (pc := 54) (Y := mJ6_bitCount_0f7a4) (vs := [.int (l1 &&& v3)]) (rest := []) (st2 := [.int q4.1]) dX1_planSprings_54 okJ6_bitCount_0f7a4 wd_962 wd_948 pdJ6_bitCount_0f7a4 rfl rfl rfl rfl (Nat.le_trans (by decide) hd) (Nat.le_of_ble_eq_true rfl) (T_J6_bitCount_0f7a4 (Nat.le_refl _) e4) rfl ?_
          refine st_iload (pc := 57) dX1_planSprings_57 rfl ?_
          refine bd_icmp_ne (pc := 59) (tgt := 81) hq dX1_planSprings_59 (by decide) (fun _ hq => ?_) (fun _ hq => ?_)
          ·
            refine st_iload (pc := 62) dX1_planSprings_62 rfl ?_
            refine st_iconst (pc := 64) (v := (1 : Int32)) dX1_planSprings_64 rfl ?_
            refine st_iload (pc := 65) dX1_planSprings_65 rfl ?_
            refine st_ishl (pc := 67) dX1_planSprings_67 ?_
            refine st_ior (pc := 68) dX1_planSprings_68 ?_
            refine st_istore (pc := 69) (lv' := [some (.ref l0), some (.int l1), some (.int l2), none, some (.int l4), some (.int (l5 ||| ((1 : Int32) <<< (l8 &&& 31)))), some (.int l6), some (.int l7), some (.int l8)]) dX1_planSprings_69 rfl (by decide) rfl ?_
            refine st_iload (pc := 71) dX1_planSprings_71 rfl ?_
            refine st_iload (pc := 73) dX1_planSprings_73 rfl ?_
            refine st_iadd (pc := 75) dX1_planSprings_75 ?_
            refine st_istore (pc := 76) (lv' := [some (.ref l0), some (.int l1), some (.int l2), none, some (.int (l4 + l7)), some (.int (l5 ||| ((1 : Int32) <<< (l8 &&& 31)))), some (.int l6), some (.int l7), some (.int l8)]) dX1_planSprings_76 rfl (by decide) rfl ?_
            refine st_iinc (pc := 78) (lv' := [some (.ref l0), some (.int l1), some (.int l2), none, some (.int (l4 + l7)), some (.int (l5 ||| ((1 : Int32) <<< (l8 &&& 31)))), some (.int (l6 + Int32.ofInt (-1))), some (.int l7), some (.int l8)]) dX1_planSprings_78 rfl rfl (by decide) rfl ?_
            exact T_X1_planSprings_81 hd hk15 ih hq
          ·
            exact T_X1_planSprings_81 hd hk15 ih hq
        ·
          exact T_X1_planSprings_81 hd hk15 ih hq
def D_X1_planSprings_15 (N : Nat) : Nat → mh_H → Nat → Int32 → Int32 → Int32 → Int32 → Int32 → Int32 → Option mh_H
  | 0, _, _, _, _, _, _, _, _ => none
  | F + 1, h, l0, l1, l2, l4, l5, l6, l7 =>
    if l7 < 0 then ((gR h 1 l0 4).bind fun v1 =>
    (aI h v1 (0 : Int32)).bind fun v2 =>
    if l4 ≤ v2 then (some h)
    else ((gR h 1 l0 4).bind fun v3 =>
    (uI h v3 (0 : Int32) l4).bind fun h4 =>
    (gR h4 1 l0 4).bind fun v5 =>
    (uI h4 v5 (1 : Int32) l1).bind fun h6 =>
    (gR h6 1 l0 4).bind fun v7 =>
    (uI h6 v7 (2 : Int32) l5).bind fun h8 =>
    some h8))
    else (D_X1_planSprings_23 N (D_X1_planSprings_15 N F) N h l0 l1 l2 l4 l5 l6 l7 (0 : Int32))
set_option maxHeartbeats 4000000 in
set_option maxRecDepth 100000 in
theorem T_X1_planSprings_15 {P : mh_E → Prop} {N d : Nat} (hd : 2 ≤ d) {z : mh_H} : ∀ (F : Nat) (h : mh_H) (l0 : Nat) (l1 : Int32) (l2 : Int32) (l4 : Int32) (l5 : Int32) (l6 : Int32) (l7 : Int32), D_X1_planSprings_15 N F h l0 l1 l2 l4 l5 l6 l7 = some z → mh_go P d mX1_planSprings 15 [some (.ref l0), some (.int l1), some (.int l2), none, some (.int l4), some (.int l5), some (.int l6), some (.int l7), none] [] h none z := by
  intro F
  induction F with
  | zero => intro h l0 l1 l2 l4 l5 l6 l7 hq; rw [D_X1_planSprings_15] at hq; cases hq
  | succ F ih =>
    intro h l0 l1 l2 l4 l5 l6 l7 hq
    rw [D_X1_planSprings_15] at hq
    refine st_iload (pc := 15) dX1_planSprings_15 rfl ?_
    refine bd_if_lt (pc := 17) (tgt := 93) hq dX1_planSprings_17 (by decide) (fun _ hq => ?_) (fun _ hq => ?_)
    ·
      refine st_iload (pc := 93) dX1_planSprings_93 rfl ?_
      refine st_aload_n (pc := 95) dX1_planSprings_95 rfl ?_
      refine bd_getr (pc := 96) hq dX1_planSprings_96 fl_1_25_1 rfl (fun v1 hq => ?_)
      refine st_iconst (pc := 99) (v := (0 : Int32)) dX1_planSprings_99 rfl ?_
      refine bd_iald (pc := 100) hq dX1_planSprings_100 (fun v2 hq => ?_)
      refine bd_icmp_le (pc := 101) (tgt := 127) hq dX1_planSprings_101 (by decide) (fun _ hq => ?_) (fun _ hq => ?_)
      ·
        exact bd_vret (pc := 127) hq dX1_planSprings_127 rfl
      ·
        refine st_aload_n (pc := 104) dX1_planSprings_104 rfl ?_
        refine bd_getr (pc := 105) hq dX1_planSprings_105 fl_1_25_1 rfl (fun v3 hq => ?_)
        refine st_iconst (pc := 108) (v := (0 : Int32)) dX1_planSprings_108 rfl ?_
        refine st_iload (pc := 109) dX1_planSprings_109 rfl ?_
        refine bd_iast (pc := 111) hq dX1_planSprings_111 (fun h4 hq => ?_)
        refine st_aload_n (pc := 112) dX1_planSprings_112 rfl ?_
        refine bd_getr (pc := 113) hq dX1_planSprings_113 fl_1_25_1 rfl (fun v5 hq => ?_)
        refine st_iconst (pc := 116) (v := (1 : Int32)) dX1_planSprings_116 rfl ?_
        refine st_iload_n (pc := 117) dX1_planSprings_117 rfl ?_
        refine bd_iast (pc := 118) hq dX1_planSprings_118 (fun h6 hq => ?_)
        refine st_aload_n (pc := 119) dX1_planSprings_119 rfl ?_
        refine bd_getr (pc := 120) hq dX1_planSprings_120 fl_1_25_1 rfl (fun v7 hq => ?_)
        refine st_iconst (pc := 123) (v := (2 : Int32)) dX1_planSprings_123 rfl ?_
        refine st_iload (pc := 124) dX1_planSprings_124 rfl ?_
        refine bd_iast (pc := 126) hq dX1_planSprings_126 (fun h8 hq => ?_)
        exact bd_vret (pc := 127) hq dX1_planSprings_127 rfl
    ·
      refine st_iconst (pc := 20) (v := (0 : Int32)) dX1_planSprings_20 rfl ?_
      refine st_istore (pc := 21) (lv' := [some (.ref l0), some (.int l1), some (.int l2), none, some (.int l4), some (.int l5), some (.int l6), some (.int l7), some (.int (0 : Int32))]) dX1_planSprings_21 rfl (by decide) rfl ?_
      exact T_X1_planSprings_23 hd ih N _ _ _ _ _ _ _ _ _ hq
def D_X1_planSprings (N : Nat) (h : mh_H) (l0 : Nat) (l1 : Int32) (l2 : Int32) (l3 : Int32) : Option mh_H :=
  (D_J6_bitCount_0f7a4 N h l1).bind fun q1 =>
  D_X1_planSprings_15 N N q1.2 l0 l1 l2 (0 : Int32) (0 : Int32) l3 q1.1
set_option maxHeartbeats 4000000 in
set_option maxRecDepth 100000 in
theorem T_X1_planSprings {P : mh_E → Prop} {N d : Nat} (hd : 2 ≤ d) {z : mh_H} {h : mh_H} {l0 : Nat} {l1 : Int32} {l2 : Int32} {l3 : Int32} (hq : D_X1_planSprings N h l0 l1 l2 l3 = some z) : mh_go P d mX1_planSprings 0 [some (.ref l0), some (.int l1), some (.int l2), some (.int l3), none, none, none, none, none] [] h none z := by
  unfold D_X1_planSprings at hq
  refine st_iconst (pc := 0) (v := (0 : Int32)) dX1_planSprings_0 rfl ?_
  refine st_istore (pc := 1) (lv' := [some (.ref l0), some (.int l1), some (.int l2), some (.int l3), some (.int (0 : Int32)), none, none, none, none]) dX1_planSprings_1 rfl (by decide) rfl ?_
  refine st_iconst (pc := 3) (v := (0 : Int32)) dX1_planSprings_3 rfl ?_
  refine st_istore (pc := 4) (lv' := [some (.ref l0), some (.int l1), some (.int l2), some (.int l3), some (.int (0 : Int32)), some (.int (0 : Int32)), none, none, none]) dX1_planSprings_4 rfl (by decide) rfl ?_
  refine st_iload_n (pc := 6) dX1_planSprings_6 rfl ?_
  refine st_istore (pc := 7) (lv' := [some (.ref l0), some (.int l1), some (.int l2), some (.int l3), some (.int (0 : Int32)), some (.int (0 : Int32)), some (.int l3), none, none]) dX1_planSprings_7 rfl (by decide) rfl ?_
  refine st_iload_n (pc := 9) dX1_planSprings_9 rfl ?_
  obtain ⟨q1, e1, hq⟩ := mh_ob hq
  refine st_invS (pc := 10) (Y := mJ6_bitCount_0f7a4) (vs := [.int l1]) (rest := []) (st2 := [.int q1.1]) dX1_planSprings_10 okJ6_bitCount_0f7a4 wd_962 wd_948 pdJ6_bitCount_0f7a4 rfl rfl rfl rfl (Nat.le_trans (by decide) hd) (Nat.le_of_ble_eq_true rfl) (T_J6_bitCount_0f7a4 (Nat.le_refl _) e1) rfl ?_
  refine st_istore (pc := 13) (lv' := [some (.ref l0), some (.int l1), some (.int l2), some (.int l3), some (.int (0 : Int32)), some (.int (0 : Int32)), some (.int l3), some (.int q1.1), none]) dX1_planSprings_13 rfl (by decide) rfl ?_
  refine st_lesS (lv' := [some (.ref l0), some (.int l1), some (.int l2), none, some (.int (0 : Int32)), some (.int (0 : Int32)), some (.int l3), some (.int q1.1), none]) ⟨Or.inr rfl, Or.inr rfl, Or.inr rfl, Or.inl rfl, Or.inr rfl, Or.inr rfl, Or.inr rfl, Or.inr rfl, Or.inr rfl, trivial⟩ ?_
  exact T_X1_planSprings_15 hd N _ _ _ _ _ _ _ _ hq
-- HoleWater$Looks.planNight(IIII)V
theorem dX1_planNight_40 : decode cX1_planNight 40 = .ok (.iastore, 1) := by decide +kernel
theorem dX1_planNight_41 : decode cX1_planNight 41 = .ok (.iinc 5 1, 3) := by decide +kernel
theorem dX1_planNight_44 : decode cX1_planNight 44 = .ok (.goto (-41), 3) := by decide +kernel
theorem dX1_planNight_101 : decode cX1_planNight 101 = .ok (.iinc 7 1, 3) := by decide +kernel
theorem dX1_planNight_104 : decode cX1_planNight 104 = .ok (.goto (-36), 3) := by decide +kernel
theorem dX1_planNight_68 : decode cX1_planNight 68 = .ok (.iload 7, 2) := by decide +kernel
theorem dX1_planNight_70 : decode cX1_planNight 70 = .ok (.iload 5, 2) := by decide +kernel
theorem dX1_planNight_72 : decode cX1_planNight 72 = .ok (.if_icmp .ge 35, 3) := by decide +kernel
theorem dX1_planNight_107 : decode cX1_planNight 107 = .ok (.return_, 1) := by decide +kernel
theorem dX1_planNight_75 : decode cX1_planNight 75 = .ok (.iload 6, 2) := by decide +kernel
theorem dX1_planNight_77 : decode cX1_planNight 77 = .ok (.iload_n 1, 1) := by decide +kernel
theorem dX1_planNight_78 : decode cX1_planNight 78 = .ok (.isub, 1) := by decide +kernel
theorem dX1_planNight_79 : decode cX1_planNight 79 = .ok (.iload_n 1, 1) := by decide +kernel
theorem dX1_planNight_80 : decode cX1_planNight 80 = .ok (.iand, 1) := by decide +kernel
theorem dX1_planNight_81 : decode cX1_planNight 81 = .ok (.istore 6, 2) := by decide +kernel
theorem dX1_planNight_83 : decode cX1_planNight 83 = .ok (.iload 6, 2) := by decide +kernel
theorem dX1_planNight_85 : decode cX1_planNight 85 = .ok (.invokestatic 89, 3) := by decide +kernel
theorem dX1_planNight_88 : decode cX1_planNight 88 = .ok (.iload_n 3, 1) := by decide +kernel
theorem dX1_planNight_89 : decode cX1_planNight 89 = .ok (.if_icmp .ne 12, 3) := by decide +kernel
theorem dX1_planNight_92 : decode cX1_planNight 92 = .ok (.aload_n 0, 1) := by decide +kernel
theorem dX1_planNight_93 : decode cX1_planNight 93 = .ok (.iload 6, 2) := by decide +kernel
theorem dX1_planNight_95 : decode cX1_planNight 95 = .ok (.iload_n 2, 1) := by decide +kernel
theorem dX1_planNight_96 : decode cX1_planNight 96 = .ok (.iload 4, 2) := by decide +kernel
theorem dX1_planNight_98 : decode cX1_planNight 98 = .ok (.invokevirtual 110, 3) := by decide +kernel
theorem dX1_planNight_3 : decode cX1_planNight 3 = .ok (.iload 5, 2) := by decide +kernel
theorem dX1_planNight_5 : decode cX1_planNight 5 = .ok (.bipush 16, 2) := by decide +kernel
theorem dX1_planNight_7 : decode cX1_planNight 7 = .ok (.if_icmp .ge 40, 3) := by decide +kernel
theorem dX1_planNight_47 : decode cX1_planNight 47 = .ok (.aload_n 0, 1) := by decide +kernel
theorem dX1_planNight_48 : decode cX1_planNight 48 = .ok (.getfield 25, 3) := by decide +kernel
theorem dX1_planNight_51 : decode cX1_planNight 51 = .ok (.iconst 0, 1) := by decide +kernel
theorem dX1_planNight_52 : decode cX1_planNight 52 = .ok (.iconst (-1), 1) := by decide +kernel
theorem dX1_planNight_53 : decode cX1_planNight 53 = .ok (.iastore, 1) := by decide +kernel
theorem dX1_planNight_54 : decode cX1_planNight 54 = .ok (.iconst 1, 1) := by decide +kernel
theorem dX1_planNight_55 : decode cX1_planNight 55 = .ok (.iload_n 1, 1) := by decide +kernel
theorem dX1_planNight_56 : decode cX1_planNight 56 = .ok (.invokestatic 89, 3) := by decide +kernel
theorem dX1_planNight_59 : decode cX1_planNight 59 = .ok (.ishl, 1) := by decide +kernel
theorem dX1_planNight_60 : decode cX1_planNight 60 = .ok (.istore 5, 2) := by decide +kernel
theorem dX1_planNight_62 : decode cX1_planNight 62 = .ok (.iconst 0, 1) := by decide +kernel
theorem dX1_planNight_63 : decode cX1_planNight 63 = .ok (.istore 6, 2) := by decide +kernel
theorem dX1_planNight_65 : decode cX1_planNight 65 = .ok (.iconst 1, 1) := by decide +kernel
theorem dX1_planNight_66 : decode cX1_planNight 66 = .ok (.istore 7, 2) := by decide +kernel
theorem dX1_planNight_10 : decode cX1_planNight 10 = .ok (.aload_n 0, 1) := by decide +kernel
theorem dX1_planNight_11 : decode cX1_planNight 11 = .ok (.getfield 28, 3) := by decide +kernel
theorem dX1_planNight_14 : decode cX1_planNight 14 = .ok (.iload 5, 2) := by decide +kernel
theorem dX1_planNight_16 : decode cX1_planNight 16 = .ok (.iload_n 2, 1) := by decide +kernel
theorem dX1_planNight_17 : decode cX1_planNight 17 = .ok (.iload 5, 2) := by decide +kernel
theorem dX1_planNight_19 : decode cX1_planNight 19 = .ok (.invokestatic 63, 3) := by decide +kernel
theorem dX1_planNight_22 : decode cX1_planNight 22 = .ok (.iconst 1, 1) := by decide +kernel
theorem dX1_planNight_23 : decode cX1_planNight 23 = .ok (.if_icmp .ne 16, 3) := by decide +kernel
theorem dX1_planNight_26 : decode cX1_planNight 26 = .ok (.iload_n 1, 1) := by decide +kernel
theorem dX1_planNight_27 : decode cX1_planNight 27 = .ok (.aload_n 0, 1) := by decide +kernel
theorem dX1_planNight_28 : decode cX1_planNight 28 = .ok (.iload 5, 2) := by decide +kernel
theorem dX1_planNight_30 : decode cX1_planNight 30 = .ok (.invokevirtual 107, 3) := by decide +kernel
theorem dX1_planNight_33 : decode cX1_planNight 33 = .ok (.iconst (-1), 1) := by decide +kernel
theorem dX1_planNight_34 : decode cX1_planNight 34 = .ok (.ixor, 1) := by decide +kernel
theorem dX1_planNight_35 : decode cX1_planNight 35 = .ok (.iand, 1) := by decide +kernel
theorem dX1_planNight_36 : decode cX1_planNight 36 = .ok (.goto 4, 3) := by decide +kernel
theorem dX1_planNight_39 : decode cX1_planNight 39 = .ok (.iconst 0, 1) := by decide +kernel
theorem dX1_planNight_0 : decode cX1_planNight 0 = .ok (.iconst 0, 1) := by decide +kernel
theorem dX1_planNight_1 : decode cX1_planNight 1 = .ok (.istore 5, 2) := by decide +kernel
def D_X1_planNight_40 (N : Nat) (k3 : mh_H → Nat → Int32 → Int32 → Int32 → Int32 → Int32 → Option mh_H) (h : mh_H) (l0 : Nat) (l1 : Int32) (l2 : Int32) (l3 : Int32) (l4 : Int32) (l5 : Int32) (s0 : Nat) (s1 : Int32) (s2 : Int32) : Option mh_H :=
  (uI h s0 s1 s2).bind fun h1 =>
  k3 h1 l0 l1 l2 l3 l4 (l5 + Int32.ofInt (1))
set_option maxHeartbeats 4000000 in
set_option maxRecDepth 100000 in
theorem T_X1_planNight_40 {P : mh_E → Prop} {N d : Nat} (hd : 3 ≤ d) {z : mh_H} {k3 : mh_H → Nat → Int32 → Int32 → Int32 → Int32 → Int32 → Option mh_H} (hk3 : ∀ (h : mh_H) (l0 : Nat) (l1 : Int32) (l2 : Int32) (l3 : Int32) (l4 : Int32) (l5 : Int32), k3 h l0 l1 l2 l3 l4 l5 = some z → mh_go P d mX1_planNight 3 [some (.ref l0), some (.int l1), some (.int l2), some (.int l3), some (.int l4), some (.int l5), none, none] [] h none z) {h : mh_H} {l0 : Nat} {l1 : Int32} {l2 : Int32} {l3 : Int32} {l4 : Int32} {l5 : Int32} {s0 : Nat} {s1 : Int32} {s2 : Int32} (hq : D_X1_planNight_40 N k3 h l0 l1 l2 l3 l4 l5 s0 s1 s2 = some z) : mh_go P d mX1_planNight 40 [some (.ref l0), some (.int l1), some (.int l2), some (.int l3), some (.int l4), some (.int l5), none, none] [.int s2, .int s1, .ref s0] h none z := by
  unfold D_X1_planNight_40 at hq
  refine bd_iast (pc := 40) hq dX1_planNight_40 (fun h1 hq => ?_)
  refine st_iinc (pc := 41) (lv' := [some (.ref l0), some (.int l1), some (.int l2), some (.int l3), some (.int l4), some (.int (l5 + Int32.ofInt (1))), none, none]) dX1_planNight_41 rfl rfl (by decide) rfl ?_
  refine st_goto (pc := 44) (tgt := 3) dX1_planNight_44 (by decide) ?_
  exact hk3 _ _ _ _ _ _ _ hq
def D_X1_planNight_101 (N : Nat) (k68 : mh_H → Nat → Int32 → Int32 → Int32 → Int32 → Int32 → Int32 → Int32 → Option mh_H) (h : mh_H) (l0 : Nat) (l1 : Int32) (l2 : Int32) (l3 : Int32) (l4 : Int32) (l5 : Int32) (l6 : Int32) (l7 : Int32) : Option mh_H :=
  k68 h l0 l1 l2 l3 l4 l5 l6 (l7 + Int32.ofInt (1))
set_option maxHeartbeats 4000000 in
set_option maxRecDepth 100000 in
theorem T_X1_planNight_101 {P : mh_E → Prop} {N d : Nat} (hd : 3 ≤ d) {z : mh_H} {k68 : mh_H → Nat → Int32 → Int32 → Int32 → Int32 → Int32 → Int32 → Int32 → Option mh_H} (hk68 : ∀ (h : mh_H) (l0 : Nat) (l1 : Int32) (l2 : Int32) (l3 : Int32) (l4 : Int32) (l5 : Int32) (l6 : Int32) (l7 : Int32), k68 h l0 l1 l2 l3 l4 l5 l6 l7 = some z → mh_go P d mX1_planNight 68 [some (.ref l0), some (.int l1), some (.int l2), some (.int l3), some (.int l4), some (.int l5), some (.int l6), some (.int l7)] [] h none z) {h : mh_H} {l0 : Nat} {l1 : Int32} {l2 : Int32} {l3 : Int32} {l4 : Int32} {l5 : Int32} {l6 : Int32} {l7 : Int32} (hq : D_X1_planNight_101 N k68 h l0 l1 l2 l3 l4 l5 l6 l7 = some z) : mh_go P d mX1_planNight 101 [some (.ref l0), some (.int l1), some (.int l2), some (.int l3), some (.int l4), some (.int l5), some (.int l6), some (.int l7)] [] h none z := by
  unfold D_X1_planNight_101 at hq
  refine st_iinc (pc := 101) (lv' := [some (.ref l0), some (.int l1), some (.int l2), some (.int l3), some (.int l4), some (.int l5), some (.int l6), some (.int (l7 + Int32.ofInt (1)))]) dX1_planNight_101 rfl rfl (by decide) rfl ?_
  refine st_goto (pc := 104) (tgt := 68) dX1_planNight_104 (by decide) ?_
  exact hk68 _ _ _ _ _ _ _ _ _ hq
def D_X1_planNight_68 (N : Nat) : Nat → mh_H → Nat → Int32 → Int32 → Int32 → Int32 → Int32 → Int32 → Int32 → Option mh_H
  | 0, _, _, _, _, _, _, _, _, _ => none
  | F + 1, h, l0, l1, l2, l3, l4, l5, l6, l7 =>
    if l5 ≤ l7 then (some h)
    else ((D_J6_bitCount_0f7a4 N h ((l6 - l1) &&& l1)).bind fun q1 =>
    if q1.1 = l3 then (kO q1.2 1 l0 <|
    (D_X1_planSprings N q1.2 l0 ((l6 - l1) &&& l1) l2 l4).bind fun q2 =>
    D_X1_planNight_101 N (D_X1_planNight_68 N F) q2 l0 l1 l2 l3 l4 l5 ((l6 - l1) &&& l1) l7)
    else (D_X1_planNight_101 N (D_X1_planNight_68 N F) q1.2 l0 l1 l2 l3 l4 l5 ((l6 - l1) &&& l1) l7))
set_option maxHeartbeats 4000000 in
set_option maxRecDepth 100000 in
theorem T_X1_planNight_68 {P : mh_E → Prop} {N d : Nat} (hd : 3 ≤ d) {z : mh_H} : ∀ (F : Nat) (h : mh_H) (l0 : Nat) (l1 : Int32) (l2 : Int32) (l3 : Int32) (l4 : Int32) (l5 : Int32) (l6 : Int32) (l7 : Int32), D_X1_planNight_68 N F h l0 l1 l2 l3 l4 l5 l6 l7 = some z → mh_go P d mX1_planNight 68 [some (.ref l0), some (.int l1), some (.int l2), some (.int l3), some (.int l4), some (.int l5), some (.int l6), some (.int l7)] [] h none z := by
  intro F
  induction F with
  | zero => intro h l0 l1 l2 l3 l4 l5 l6 l7 hq; rw [D_X1_planNight_68] at hq; cases hq
  | succ F ih =>
    intro h l0 l1 l2 l3 l4 l5 l6 l7 hq
    rw [D_X1_planNight_68] at hq
    refine st_iload (pc := 68) dX1_planNight_68 rfl ?_
    refine st_iload (pc := 70) dX1_planNight_70 rfl ?_
    refine bd_icmp_ge (pc := 72) (tgt := 107) hq dX1_planNight_72 (by decide) (fun _ hq => ?_) (fun _ hq => ?_)
    ·
      exact bd_vret (pc := 107) hq dX1_planNight_107 rfl
    ·
      refine st_iload (pc := 75) dX1_planNight_75 rfl ?_
      refine st_iload_n (pc := 77) dX1_planNight_77 rfl ?_
      refine st_isub (pc := 78) dX1_planNight_78 ?_
      refine st_iload_n (pc := 79) dX1_planNight_79 rfl ?_
      refine st_iand (pc := 80) dX1_planNight_80 ?_
      refine st_istore (pc := 81) (lv' := [some (.ref l0), some (.int l1), some (.int l2), some (.int l3), some (.int l4), some (.int l5), some (.int ((l6 - l1) &&& l1)), some (.int l7)]) dX1_planNight_81 rfl (by decide) rfl ?_
      refine st_iload (pc := 83) dX1_planNight_83 rfl ?_
      obtain ⟨q1, e1, hq⟩ := mh_ob hq
      refine st_invS (pc := 85) (Y := mJ6_bitCount_0f7a4) (vs := [.int ((l6 - l1) &&& l1)]) (rest := []) (st2 := [.int q1.1]) dX1_planNight_85 okJ6_bitCount_0f7a4 wd_962 wd_948 pdJ6_bitCount_0f7a4 rfl rfl rfl rfl (Nat.le_trans (by decide) hd) (Nat.le_of_ble_eq_true rfl) (T_J6_bitCount_0f7a4 (Nat.le_refl _) e1) rfl ?_
      refine st_iload_n (pc := 88) dX1_planNight_88 rfl ?_
      refine bd_icmp_ne (pc := 89) (tgt := 101) hq dX1_planNight_89 (by decide) (fun _ hq => ?_) (fun _ hq => ?_)
      ·
        refine st_aload_n (pc := 92) dX1_planNight_92 rfl ?_
        refine st_iload (pc := 93) dX1_planNight_93 rfl ?_
        refine st_iload_n (pc := 95) dX1_planNight_95 rfl ?_
        refine st_iload (pc := 96) dX1_planNight_96 rfl ?_
        obtain ⟨⟨hbq2, hkq2⟩, hq⟩ := mh_oi hq
        obtain ⟨q2, e2, hq⟩ := mh_ob hq
        refine st_invV (pc := 98) (ci := 1) (vs := [.int ((l6 - l1) &&& l1), .int l2, .int l4]) (rest := []) (st2 := []) dX1_planNight_98 okX1_planSprings (by decide) hkq2 hbq2 wd_992 wd_994 wp_34 pdX1_planSprings rfl rfl rfl rfl (Nat.le_trans (by decide) hd) (Nat.le_of_ble_eq_true rfl) (T_X1_planSprings (Nat.le_refl _) e2) rfl ?_
        exact T_X1_planNight_101 hd ih hq
      ·
        exact T_X1_planNight_101 hd ih hq
def D_X1_planNight_3 (N : Nat) : Nat → mh_H → Nat → Int32 → Int32 → Int32 → Int32 → Int32 → Option mh_H
  | 0, _, _, _, _, _, _, _ => none
  | F + 1, h, l0, l1, l2, l3, l4, l5 =>
    if (16 : Int32) ≤ l5 then ((gR h 1 l0 4).bind fun v1 =>
    (uI h v1 (0 : Int32) (-1 : Int32)).bind fun h2 =>
    (D_J6_bitCount_0f7a4 N h2 l1).bind fun q3 =>
    D_X1_planNight_68 N N q3.2 l0 l1 l2 l3 l4 ((1 : Int32) <<< (q3.1 &&& 31)) (0 : Int32) (1 : Int32))
    else ((gR h 1 l0 5).bind fun v1 =>
    (D_X11_bit N h l2 l5).bind fun q2 =>
    if q2.1 = (1 : Int32) then (kO q2.2 1 l0 <|
    (D_X1_holesLookedFor N q2.2 l0 l5).bind fun q3 =>
    D_X1_planNight_40 N (D_X1_planNight_3 N F) q3.2 l0 l1 l2 l3 l4 l5 v1 l5 (l1 &&& (q3.1 ^^^ (-1 : Int32))))
    else (D_X1_planNight_40 N (D_X1_planNight_3 N F) q2.2 l0 l1 l2 l3 l4 l5 v1 l5 (0 : Int32)))
set_option maxHeartbeats 4000000 in
set_option maxRecDepth 100000 in
theorem T_X1_planNight_3 {P : mh_E → Prop} {N d : Nat} (hd : 3 ≤ d) {z : mh_H} : ∀ (F : Nat) (h : mh_H) (l0 : Nat) (l1 : Int32) (l2 : Int32) (l3 : Int32) (l4 : Int32) (l5 : Int32), D_X1_planNight_3 N F h l0 l1 l2 l3 l4 l5 = some z → mh_go P d mX1_planNight 3 [some (.ref l0), some (.int l1), some (.int l2), some (.int l3), some (.int l4), some (.int l5), none, none] [] h none z := by
  intro F
  induction F with
  | zero => intro h l0 l1 l2 l3 l4 l5 hq; rw [D_X1_planNight_3] at hq; cases hq
  | succ F ih =>
    intro h l0 l1 l2 l3 l4 l5 hq
    rw [D_X1_planNight_3] at hq
    refine st_iload (pc := 3) dX1_planNight_3 rfl ?_
    refine st_bipush (pc := 5) (v := (16 : Int32)) dX1_planNight_5 (by decide) ?_
    refine bd_icmp_ge (pc := 7) (tgt := 47) hq dX1_planNight_7 (by decide) (fun _ hq => ?_) (fun _ hq => ?_)
    ·
      refine st_aload_n (pc := 47) dX1_planNight_47 rfl ?_
      refine bd_getr (pc := 48) hq dX1_planNight_48 fl_1_25_1 rfl (fun v1 hq => ?_)
      refine st_iconst (pc := 51) (v := (0 : Int32)) dX1_planNight_51 rfl ?_
      refine st_iconst (pc := 52) (v := (-1 : Int32)) dX1_planNight_52 rfl ?_
      refine bd_iast (pc := 53) hq dX1_planNight_53 (fun h2 hq => ?_)
      refine st_iconst (pc := 54) (v := (1 : Int32)) dX1_planNight_54 rfl ?_
      refine st_iload_n (pc := 55) dX1_planNight_55 rfl ?_
      obtain ⟨q3, e3, hq⟩ := mh_ob hq
      refine st_invS (pc := 56) (Y := mJ6_bitCount_0f7a4) (vs := [.int l1]) (rest := [.int (1 : Int32)]) (st2 := [.int q3.1, .int (1 : Int32)]) dX1_planNight_56 okJ6_bitCount_0f7a4 wd_962 wd_948 pdJ6_bitCount_0f7a4 rfl rfl rfl rfl (Nat.le_trans (by decide) hd) (Nat.le_of_ble_eq_true rfl) (T_J6_bitCount_0f7a4 (Nat.le_refl _) e3) rfl ?_
      refine st_ishl (pc := 59) dX1_planNight_59 ?_
      refine st_istore (pc := 60) (lv' := [some (.ref l0), some (.int l1), some (.int l2), some (.int l3), some (.int l4), some (.int ((1 : Int32) <<< (q3.1 &&& 31))), none, none]) dX1_planNight_60 rfl (by decide) rfl ?_
      refine st_iconst (pc := 62) (v := (0 : Int32)) dX1_planNight_62 rfl ?_
      refine st_istore (pc := 63) (lv' := [some (.ref l0), some (.int l1), some (.int l2), some (.int l3), some (.int l4), some (.int ((1 : Int32) <<< (q3.1 &&& 31))), some (.int (0 : Int32)), none]) dX1_planNight_63 rfl (by decide) rfl ?_
      refine st_iconst (pc := 65) (v := (1 : Int32)) dX1_planNight_65 rfl ?_
      refine st_istore (pc := 66) (lv' := [some (.ref l0), some (.int l1), some (.int l2), some (.int l3), some (.int l4), some (.int ((1 : Int32) <<< (q3.1 &&& 31))), some (.int (0 : Int32)), some (.int (1 : Int32))]) dX1_planNight_66 rfl (by decide) rfl ?_
      exact T_X1_planNight_68 hd N _ _ _ _ _ _ _ _ _ hq
    ·
      refine st_aload_n (pc := 10) dX1_planNight_10 rfl ?_
      refine bd_getr (pc := 11) hq dX1_planNight_11 fl_1_28_1 rfl (fun v1 hq => ?_)
      refine st_iload (pc := 14) dX1_planNight_14 rfl ?_
      refine st_iload_n (pc := 16) dX1_planNight_16 rfl ?_
      refine st_iload (pc := 17) dX1_planNight_17 rfl ?_
      obtain ⟨q2, e2, hq⟩ := mh_ob hq
      refine st_invSN (pc := 19) (Y := mX11_bit) (vs := [.int l2, .int l5]) (rest := [.int l5, .ref v1]) (st2 := [.int q2.1, .int l5, .ref v1]) dX1_planNight_19 okX11_bit wn_891 wd_344 pdX11_bit rfl rfl rfl rfl (Nat.le_trans (by decide) hd) (Nat.le_of_ble_eq_true rfl) (T_X11_bit (Nat.le_refl _) e2) rfl ?_
      refine st_iconst (pc := 22) (v := (1 : Int32)) dX1_planNight_22 rfl ?_
      refine bd_icmp_ne (pc := 23) (tgt := 39) hq dX1_planNight_23 (by decide) (fun _ hq => ?_) (fun _ hq => ?_)
      ·
        refine st_iload_n (pc := 26) dX1_planNight_26 rfl ?_
        refine st_aload_n (pc := 27) dX1_planNight_27 rfl ?_
        refine st_iload (pc := 28) dX1_planNight_28 rfl ?_
        obtain ⟨⟨hbq3, hkq3⟩, hq⟩ := mh_oi hq
        obtain ⟨q3, e3, hq⟩ := mh_ob hq
        refine st_invV (pc := 30) (ci := 1) (vs := [.int l5]) (rest := [.int l1, .int l5, .ref v1]) (st2 := [.int q3.1, .int l1, .int l5, .ref v1]) dX1_planNight_30 okX1_holesLookedFor (by decide) hkq3 hbq3 wd_988 wd_990 wp_33 pdX1_holesLookedFor rfl rfl rfl rfl (Nat.le_trans (by decide) hd) (Nat.le_of_ble_eq_true rfl) (T_X1_holesLookedFor (Nat.le_refl _) e3) rfl ?_
        refine st_iconst (pc := 33) (v := (-1 : Int32)) dX1_planNight_33 rfl ?_
        refine st_ixor (pc := 34) dX1_planNight_34 ?_
        refine st_iand (pc := 35) dX1_planNight_35 ?_
        refine st_goto (pc := 36) (tgt := 40) dX1_planNight_36 (by decide) ?_
        exact T_X1_planNight_40 hd ih hq
      ·
        refine st_iconst (pc := 39) (v := (0 : Int32)) dX1_planNight_39 rfl ?_
        exact T_X1_planNight_40 hd ih hq
def D_X1_planNight (N : Nat) (h : mh_H) (l0 : Nat) (l1 : Int32) (l2 : Int32) (l3 : Int32) (l4 : Int32) : Option mh_H :=
  D_X1_planNight_3 N N h l0 l1 l2 l3 l4 (0 : Int32)
set_option maxHeartbeats 4000000 in
set_option maxRecDepth 100000 in
theorem T_X1_planNight {P : mh_E → Prop} {N d : Nat} (hd : 3 ≤ d) {z : mh_H} {h : mh_H} {l0 : Nat} {l1 : Int32} {l2 : Int32} {l3 : Int32} {l4 : Int32} (hq : D_X1_planNight N h l0 l1 l2 l3 l4 = some z) : mh_go P d mX1_planNight 0 [some (.ref l0), some (.int l1), some (.int l2), some (.int l3), some (.int l4), none, none, none] [] h none z := by
  unfold D_X1_planNight at hq
  refine st_iconst (pc := 0) (v := (0 : Int32)) dX1_planNight_0 rfl ?_
  refine st_istore (pc := 1) (lv' := [some (.ref l0), some (.int l1), some (.int l2), some (.int l3), some (.int l4), some (.int (0 : Int32)), none, none]) dX1_planNight_1 rfl (by decide) rfl ?_
  exact T_X1_planNight_3 hd N _ _ _ _ _ _ _ hq
-- HoleWater.night(III)I
theorem dX11_night_28 : decode cX11_night 28 = .ok (.aload_n 0, 1) := by decide +kernel
theorem dX11_night_29 : decode cX11_night 29 = .ok (.iconst 1, 1) := by decide +kernel
theorem dX11_night_30 : decode cX11_night 30 = .ok (.invokevirtual 66, 3) := by decide +kernel
theorem dX11_night_33 : decode cX11_night 33 = .ok (.ireturn, 1) := by decide +kernel
theorem dX11_night_92 : decode cX11_night 92 = .ok (.aload_n 0, 1) := by decide +kernel
theorem dX11_night_93 : decode cX11_night 93 = .ok (.iconst 2, 1) := by decide +kernel
theorem dX11_night_94 : decode cX11_night 94 = .ok (.invokevirtual 66, 3) := by decide +kernel
theorem dX11_night_97 : decode cX11_night 97 = .ok (.ireturn, 1) := by decide +kernel
theorem dX11_night_0 : decode cX11_night 0 = .ok (.iload_n 1, 1) := by decide +kernel
theorem dX11_night_1 : decode cX11_night 1 = .ok (.iconst 1, 1) := by decide +kernel
theorem dX11_night_2 : decode cX11_night 2 = .ok (.iconst 4, 1) := by decide +kernel
theorem dX11_night_3 : decode cX11_night 3 = .ok (.invokestatic 62, 3) := by decide +kernel
theorem dX11_night_6 : decode cX11_night 6 = .ok (.ifCond .eq 22, 3) := by decide +kernel
theorem dX11_night_9 : decode cX11_night 9 = .ok (.iload_n 2, 1) := by decide +kernel
theorem dX11_night_10 : decode cX11_night 10 = .ok (.iconst 1, 1) := by decide +kernel
theorem dX11_night_11 : decode cX11_night 11 = .ok (.bipush 6, 2) := by decide +kernel
theorem dX11_night_13 : decode cX11_night 13 = .ok (.invokestatic 62, 3) := by decide +kernel
theorem dX11_night_16 : decode cX11_night 16 = .ok (.ifCond .eq 12, 3) := by decide +kernel
theorem dX11_night_19 : decode cX11_night 19 = .ok (.iload_n 3, 1) := by decide +kernel
theorem dX11_night_20 : decode cX11_night 20 = .ok (.iconst 0, 1) := by decide +kernel
theorem dX11_night_21 : decode cX11_night 21 = .ok (.iconst 2, 1) := by decide +kernel
theorem dX11_night_22 : decode cX11_night 22 = .ok (.invokestatic 62, 3) := by decide +kernel
theorem dX11_night_25 : decode cX11_night 25 = .ok (.ifCond .ne 9, 3) := by decide +kernel
theorem dX11_night_34 : decode cX11_night 34 = .ok (.aload_n 0, 1) := by decide +kernel
theorem dX11_night_35 : decode cX11_night 35 = .ok (.getfield 12, 3) := by decide +kernel
theorem dX11_night_38 : decode cX11_night 38 = .ok (.iconst 0, 1) := by decide +kernel
theorem dX11_night_39 : decode cX11_night 39 = .ok (.invokevirtual 166, 3) := by decide +kernel
theorem dX11_night_42 : decode cX11_night 42 = .ok (.aload_n 0, 1) := by decide +kernel
theorem dX11_night_43 : decode cX11_night 43 = .ok (.getfield 12, 3) := by decide +kernel
theorem dX11_night_46 : decode cX11_night 46 = .ok (.getfield 196, 3) := by decide +kernel
theorem dX11_night_49 : decode cX11_night 49 = .ok (.aload_n 0, 1) := by decide +kernel
theorem dX11_night_50 : decode cX11_night 50 = .ok (.getfield 12, 3) := by decide +kernel
theorem dX11_night_53 : decode cX11_night 53 = .ok (.getfield 102, 3) := by decide +kernel
theorem dX11_night_56 : decode cX11_night 56 = .ok (.invokevirtual 319, 3) := by decide +kernel
theorem dX11_night_59 : decode cX11_night 59 = .ok (.iconst (-1), 1) := by decide +kernel
theorem dX11_night_60 : decode cX11_night 60 = .ok (.ixor, 1) := by decide +kernel
theorem dX11_night_61 : decode cX11_night 61 = .ok (.iand, 1) := by decide +kernel
theorem dX11_night_62 : decode cX11_night 62 = .ok (.istore 4, 2) := by decide +kernel
theorem dX11_night_64 : decode cX11_night 64 = .ok (.aload_n 0, 1) := by decide +kernel
theorem dX11_night_65 : decode cX11_night 65 = .ok (.getfield 12, 3) := by decide +kernel
theorem dX11_night_68 : decode cX11_night 68 = .ok (.iconst 2, 1) := by decide +kernel
theorem dX11_night_69 : decode cX11_night 69 = .ok (.invokevirtual 166, 3) := by decide +kernel
theorem dX11_night_72 : decode cX11_night 72 = .ok (.istore 5, 2) := by decide +kernel
theorem dX11_night_74 : decode cX11_night 74 = .ok (.iload 4, 2) := by decide +kernel
theorem dX11_night_76 : decode cX11_night 76 = .ok (.invokestatic 311, 3) := by decide +kernel
theorem dX11_night_79 : decode cX11_night 79 = .ok (.iload_n 1, 1) := by decide +kernel
theorem dX11_night_80 : decode cX11_night 80 = .ok (.if_icmp .lt 12, 3) := by decide +kernel
theorem dX11_night_83 : decode cX11_night 83 = .ok (.iload 5, 2) := by decide +kernel
theorem dX11_night_85 : decode cX11_night 85 = .ok (.invokestatic 311, 3) := by decide +kernel
theorem dX11_night_88 : decode cX11_night 88 = .ok (.iload_n 2, 1) := by decide +kernel
theorem dX11_night_89 : decode cX11_night 89 = .ok (.if_icmp .ge 9, 3) := by decide +kernel
theorem dX11_night_98 : decode cX11_night 98 = .ok (.aload_n 0, 1) := by decide +kernel
theorem dX11_night_99 : decode cX11_night 99 = .ok (.getfield 12, 3) := by decide +kernel
theorem dX11_night_102 : decode cX11_night 102 = .ok (.getfield 196, 3) := by decide +kernel
theorem dX11_night_105 : decode cX11_night 105 = .ok (.iload 4, 2) := by decide +kernel
theorem dX11_night_107 : decode cX11_night 107 = .ok (.iload 5, 2) := by decide +kernel
theorem dX11_night_109 : decode cX11_night 109 = .ok (.iload_n 1, 1) := by decide +kernel
theorem dX11_night_110 : decode cX11_night 110 = .ok (.iload_n 2, 1) := by decide +kernel
theorem dX11_night_111 : decode cX11_night 111 = .ok (.invokevirtual 322, 3) := by decide +kernel
theorem dX11_night_114 : decode cX11_night 114 = .ok (.aload_n 0, 1) := by decide +kernel
theorem dX11_night_115 : decode cX11_night 115 = .ok (.getfield 12, 3) := by decide +kernel
theorem dX11_night_118 : decode cX11_night 118 = .ok (.getfield 196, 3) := by decide +kernel
theorem dX11_night_121 : decode cX11_night 121 = .ok (.getfield 326, 3) := by decide +kernel
theorem dX11_night_124 : decode cX11_night 124 = .ok (.iload_n 3, 1) := by decide +kernel
theorem dX11_night_125 : decode cX11_night 125 = .ok (.iaload, 1) := by decide +kernel
theorem dX11_night_126 : decode cX11_night 126 = .ok (.ireturn, 1) := by decide +kernel
def D_X11_night_28 (N : Nat) (h : mh_H) (l0 : Nat) : Option (Int32 × mh_H) :=
  kO h 11 l0 <|
  (D_X11_error N h l0 (1 : Int32)).bind fun q1 =>
  some (q1.1, q1.2)
set_option maxHeartbeats 4000000 in
set_option maxRecDepth 100000 in
theorem T_X11_night_28 {P : mh_E → Prop} {N d : Nat} (hd : 4 ≤ d) {z : (Int32 × mh_H)} {h : mh_H} {l0 : Nat} (hq : D_X11_night_28 N h l0 = some z) : mh_go P d mX11_night 28 [some (.ref l0), none, none, none, none, none] [] h (some (.int z.1)) z.2 := by
  unfold D_X11_night_28 at hq
  refine st_aload_n (pc := 28) dX11_night_28 rfl ?_
  refine st_iconst (pc := 29) (v := (1 : Int32)) dX11_night_29 rfl ?_
  obtain ⟨⟨hbq1, hkq1⟩, hq⟩ := mh_oi hq
  obtain ⟨q1, e1, hq⟩ := mh_ob hq
  refine st_invV (pc := 30) (ci := 11) (vs := [.int (1 : Int32)]) (rest := []) (st2 := [.int q1.1]) dX11_night_30 okX11_error (by decide) hkq1 hbq1 wd_326 wd_328 wp_0 pdX11_error rfl rfl rfl rfl (Nat.le_trans (by decide) hd) (Nat.le_of_ble_eq_true rfl) (T_X11_error (Nat.le_refl _) e1) rfl ?_
  exact bd_iret (pc := 33) hq dX11_night_33 rfl
def D_X11_night_92 (N : Nat) (h : mh_H) (l0 : Nat) : Option (Int32 × mh_H) :=
  kO h 11 l0 <|
  (D_X11_error N h l0 (2 : Int32)).bind fun q1 =>
  some (q1.1, q1.2)
set_option maxHeartbeats 4000000 in
set_option maxRecDepth 100000 in
theorem T_X11_night_92 {P : mh_E → Prop} {N d : Nat} (hd : 4 ≤ d) {z : (Int32 × mh_H)} {h : mh_H} {l0 : Nat} (hq : D_X11_night_92 N h l0 = some z) : mh_go P d mX11_night 92 [some (.ref l0), none, none, none, none, none] [] h (some (.int z.1)) z.2 := by
  unfold D_X11_night_92 at hq
  refine st_aload_n (pc := 92) dX11_night_92 rfl ?_
  refine st_iconst (pc := 93) (v := (2 : Int32)) dX11_night_93 rfl ?_
  obtain ⟨⟨hbq1, hkq1⟩, hq⟩ := mh_oi hq
  obtain ⟨q1, e1, hq⟩ := mh_ob hq
  refine st_invV (pc := 94) (ci := 11) (vs := [.int (2 : Int32)]) (rest := []) (st2 := [.int q1.1]) dX11_night_94 okX11_error (by decide) hkq1 hbq1 wd_326 wd_328 wp_0 pdX11_error rfl rfl rfl rfl (Nat.le_trans (by decide) hd) (Nat.le_of_ble_eq_true rfl) (T_X11_error (Nat.le_refl _) e1) rfl ?_
  exact bd_iret (pc := 97) hq dX11_night_97 rfl
def D_X11_night (N : Nat) (h : mh_H) (l0 : Nat) (l1 : Int32) (l2 : Int32) (l3 : Int32) : Option (Int32 × mh_H) :=
  (D_X11_within N h l1 (1 : Int32) (4 : Int32)).bind fun q1 =>
  if q1.1 = 0 then (D_X11_night_28 N q1.2 l0)
  else ((D_X11_within N q1.2 l2 (1 : Int32) (6 : Int32)).bind fun q2 =>
  if q2.1 = 0 then (D_X11_night_28 N q2.2 l0)
  else ((D_X11_within N q2.2 l3 (0 : Int32) (2 : Int32)).bind fun q3 =>
  if q3.1 = 0 then (D_X11_night_28 N q3.2 l0)
  else ((gR q3.2 11 l0 0).bind fun v4 =>
  kO q3.2 10 v4 <|
  (D_X10_bitsOf N q3.2 v4 (0 : Int32)).bind fun q5 =>
  (gR q5.2 11 l0 0).bind fun v6 =>
  (gR q5.2 10 v6 8).bind fun v7 =>
  (gR q5.2 11 l0 0).bind fun v8 =>
  (gI q5.2 10 v8 2).bind fun v9 =>
  kO q5.2 1 v7 <|
  (D_X1_holesKnownAt N q5.2 v7 v9).bind fun q10 =>
  (gR q10.2 11 l0 0).bind fun v11 =>
  kO q10.2 10 v11 <|
  (D_X10_bitsOf N q10.2 v11 (2 : Int32)).bind fun q12 =>
  (D_J6_bitCount_0f7a4 N q12.2 (q5.1 &&& (q10.1 ^^^ (-1 : Int32)))).bind fun q13 =>
  if q13.1 < l1 then (D_X11_night_92 N q13.2 l0)
  else ((D_J6_bitCount_0f7a4 N q13.2 q12.1).bind fun q14 =>
  if l2 ≤ q14.1 then ((gR q14.2 11 l0 0).bind fun v15 =>
  (gR q14.2 10 v15 8).bind fun v16 =>
  kO q14.2 1 v16 <|
  (D_X1_planNight N q14.2 v16 (q5.1 &&& (q10.1 ^^^ (-1 : Int32))) q12.1 l1 l2).bind fun q17 =>
  (gR q17 11 l0 0).bind fun v18 =>
  (gR q17 10 v18 8).bind fun v19 =>
  (gR q17 1 v19 4).bind fun v20 =>
  (aI q17 v20 l3).bind fun v21 =>
  some (v21, q17))
  else (D_X11_night_92 N q14.2 l0)))))
set_option maxHeartbeats 4000000 in
set_option maxRecDepth 100000 in
theorem T_X11_night {P : mh_E → Prop} {N d : Nat} (hd : 4 ≤ d) {z : (Int32 × mh_H)} {h : mh_H} {l0 : Nat} {l1 : Int32} {l2 : Int32} {l3 : Int32} (hq : D_X11_night N h l0 l1 l2 l3 = some z) : mh_go P d mX11_night 0 [some (.ref l0), some (.int l1), some (.int l2), some (.int l3), none, none] [] h (some (.int z.1)) z.2 := by
  unfold D_X11_night at hq
  refine st_iload_n (pc := 0) dX11_night_0 rfl ?_
  refine st_iconst (pc := 1) (v := (1 : Int32)) dX11_night_1 rfl ?_
  refine st_iconst (pc := 2) (v := (4 : Int32)) dX11_night_2 rfl ?_
  obtain ⟨q1, e1, hq⟩ := mh_ob hq
  refine st_invS (pc := 3) (Y := mX11_within) (vs := [.int l1, .int (1 : Int32), .int (4 : Int32)]) (rest := []) (st2 := [.int q1.1]) dX11_night_3 okX11_within wd_323 wd_324 pdX11_within rfl rfl rfl rfl (Nat.le_trans (by decide) hd) (Nat.le_of_ble_eq_true rfl) (T_X11_within (Nat.le_refl _) e1) rfl ?_
  refine bd_if_eq (pc := 6) (tgt := 28) hq dX11_night_6 (by decide) (fun _ hq => ?_) (fun _ hq => ?_)
  ·
    refine st_lesS (lv' := [some (.ref l0), none, none, none, none, none]) ⟨Or.inr rfl, Or.inl rfl, Or.inl rfl, Or.inl rfl, Or.inr rfl, Or.inr rfl, trivial⟩ ?_
    exact T_X11_night_28 hd hq
  ·
    refine st_iload_n (pc := 9) dX11_night_9 rfl ?_
    refine st_iconst (pc := 10) (v := (1 : Int32)) dX11_night_10 rfl ?_
    refine st_bipush (pc := 11) (v := (6 : Int32)) dX11_night_11 (by decide) ?_
    obtain ⟨q2, e2, hq⟩ := mh_ob hq
    refine st_invS (pc := 13) (Y := mX11_within) (vs := [.int l2, .int (1 : Int32), .int (6 : Int32)]) (rest := []) (st2 := [.int q2.1]) dX11_night_13 okX11_within wd_323 wd_324 pdX11_within rfl rfl rfl rfl (Nat.le_trans (by decide) hd) (Nat.le_of_ble_eq_true rfl) (T_X11_within (Nat.le_refl _) e2) rfl ?_
    refine bd_if_eq (pc := 16) (tgt := 28) hq dX11_night_16 (by decide) (fun _ hq => ?_) (fun _ hq => ?_)
    ·
      refine st_lesS (lv' := [some (.ref l0), none, none, none, none, none]) ⟨Or.inr rfl, Or.inl rfl, Or.inl rfl, Or.inl rfl, Or.inr rfl, Or.inr rfl, trivial⟩ ?_
      exact T_X11_night_28 hd hq
    ·
      refine st_iload_n (pc := 19) dX11_night_19 rfl ?_
      refine st_iconst (pc := 20) (v := (0 : Int32)) dX11_night_20 rfl ?_
      refine st_iconst (pc := 21) (v := (2 : Int32)) dX11_night_21 rfl ?_
      obtain ⟨q3, e3, hq⟩ := mh_ob hq
      refine st_invS (pc := 22) (Y := mX11_within) (vs := [.int l3, .int (0 : Int32), .int (2 : Int32)]) (rest := []) (st2 := [.int q3.1]) dX11_night_22 okX11_within wd_323 wd_324 pdX11_within rfl rfl rfl rfl (Nat.le_trans (by decide) hd) (Nat.le_of_ble_eq_true rfl) (T_X11_within (Nat.le_refl _) e3) rfl ?_
      refine bd_if_ne (pc := 25) (tgt := 34) hq dX11_night_25 (by decide) (fun _ hq => ?_) (fun _ hq => ?_)
      ·
        refine st_lesS (lv' := [some (.ref l0), none, none, none, none, none]) ⟨Or.inr rfl, Or.inl rfl, Or.inl rfl, Or.inl rfl, Or.inr rfl, Or.inr rfl, trivial⟩ ?_
        exact T_X11_night_28 hd hq
      ·
        refine st_aload_n (pc := 34) dX11_night_34 rfl ?_
        refine bd_getr (pc := 35) hq dX11_night_35 fl_11_12_11 rfl (fun v4 hq => ?_)
        refine st_iconst (pc := 38) (v := (0 : Int32)) dX11_night_38 rfl ?_
        obtain ⟨⟨hbq5, hkq5⟩, hq⟩ := mh_oi hq
        obtain ⟨q5, e5, hq⟩ := mh_ob hq
        refine st_invV (pc := 39) (ci := 10) (vs := [.int (0 : Int32)]) (rest := []) (st2 := [.int q5.1]) dX11_night_39 okX10_bitsOf (by decide) hkq5 hbq5 wd_483 wd_484 wd_485 pdX10_bitsOf rfl rfl rfl rfl (Nat.le_trans (by decide) hd) (Nat.le_of_ble_eq_true rfl) (T_X10_bitsOf (Nat.le_refl _) e5) rfl ?_
        refine st_aload_n (pc := 42) dX11_night_42 rfl ?_
        refine bd_getr (pc := 43) hq dX11_night_43 fl_11_12_11 rfl (fun v6 hq => ?_)
        refine bd_getr (pc := 46) hq dX11_night_46 fl_11_196_10 rfl (fun v7 hq => ?_)
        refine st_aload_n (pc := 49) dX11_night_49 rfl ?_
        refine bd_getr (pc := 50) hq dX11_night_50 fl_11_12_11 rfl (fun v8 hq => ?_)
        refine bd_geti (pc := 53) hq dX11_night_53 fl_11_102_10 rfl (fun v9 hq => ?_)
        obtain ⟨⟨hbq10, hkq10⟩, hq⟩ := mh_oi hq
        obtain ⟨q10, e10, hq⟩ := mh_ob hq
        refine st_invV (pc := 56) (ci := 1) (vs := [.int v9]) (rest := [.int q5.1]) (st2 := [.int q10.1, .int q5.1]) dX11_night_56 okX1_holesKnownAt (by decide) hkq10 hbq10 wd_980 wd_981 wd_982 pdX1_holesKnownAt rfl rfl rfl rfl (Nat.le_trans (by decide) hd) (Nat.le_of_ble_eq_true rfl) (T_X1_holesKnownAt (Nat.le_refl _) e10) rfl ?_
        refine st_iconst (pc := 59) (v := (-1 : Int32)) dX11_night_59 rfl ?_
        refine st_ixor (pc := 60) dX11_night_60 ?_
        refine st_iand (pc := 61) dX11_night_61 ?_
        refine st_istore (pc := 62) (lv' := [some (.ref l0), some (.int l1), some (.int l2), some (.int l3), some (.int (q5.1 &&& (q10.1 ^^^ (-1 : Int32)))), none]) dX11_night_62 rfl (by decide) rfl ?_
        refine st_aload_n (pc := 64) dX11_night_64 rfl ?_
        refine bd_getr (pc := 65) hq dX11_night_65 fl_11_12_11 rfl (fun v11 hq => ?_)
        refine st_iconst (pc := 68) (v := (2 : Int32)) dX11_night_68 rfl ?_
        obtain ⟨⟨hbq12, hkq12⟩, hq⟩ := mh_oi hq
        obtain ⟨q12, e12, hq⟩ := mh_ob hq
        refine st_invV (pc := 69) (ci := 10) (vs := [.int (2 : Int32)]) (rest := []) (st2 := [.int q12.1]) dX11_night_69 okX10_bitsOf (by decide) hkq12 hbq12 wd_483 wd_484 wd_485 pdX10_bitsOf rfl rfl rfl rfl (Nat.le_trans (by decide) hd) (Nat.le_of_ble_eq_true rfl) (T_X10_bitsOf (Nat.le_refl _) e12) rfl ?_
        refine st_istore (pc := 72) (lv' := [some (.ref l0), some (.int l1), some (.int l2), some (.int l3), some (.int (q5.1 &&& (q10.1 ^^^ (-1 : Int32)))), some (.int q12.1)]) dX11_night_72 rfl (by decide) rfl ?_
        refine st_iload (pc := 74) dX11_night_74 rfl ?_
        obtain ⟨q13, e13, hq⟩ := mh_ob hq
        refine st_invS (pc := 76) (Y := mJ6_bitCount_0f7a4) (vs := [.int (q5.1 &&& (q10.1 ^^^ (-1 : Int32)))]) (rest := []) (st2 := [.int q13.1]) dX11_night_76 okJ6_bitCount_0f7a4 wd_947 wd_948 pdJ6_bitCount_0f7a4 rfl rfl rfl rfl (Nat.le_trans (by decide) hd) (Nat.le_of_ble_eq_true rfl) (T_J6_bitCount_0f7a4 (Nat.le_refl _) e13) rfl ?_
        refine st_iload_n (pc := 79) dX11_night_79 rfl ?_
        refine bd_icmp_lt (pc := 80) (tgt := 92) hq dX11_night_80 (by decide) (fun _ hq => ?_) (fun _ hq => ?_)
        ·
          refine st_lesS (lv' := [some (.ref l0), none, none, none, none, none]) ⟨Or.inr rfl, Or.inl rfl, Or.inl rfl, Or.inl rfl, Or.inl rfl, Or.inl rfl, trivial⟩ ?_
          exact T_X11_night_92 hd hq
        ·
          refine st_iload (pc := 83) dX11_night_83 rfl ?_
          obtain ⟨q14, e14, hq⟩ := mh_ob hq
          refine st_invS (pc := 85) (Y := mJ6_bitCount_0f7a4) (vs := [.int q12.1]) (rest := []) (st2 := [.int q14.1]) dX11_night_85 okJ6_bitCount_0f7a4 wd_947 wd_948 pdJ6_bitCount_0f7a4 rfl rfl rfl rfl (Nat.le_trans (by decide) hd) (Nat.le_of_ble_eq_true rfl) (T_J6_bitCount_0f7a4 (Nat.le_refl _) e14) rfl ?_
          refine st_iload_n (pc := 88) dX11_night_88 rfl ?_
          refine bd_icmp_ge (pc := 89) (tgt := 98) hq dX11_night_89 (by decide) (fun _ hq => ?_) (fun _ hq => ?_)
          ·
            refine st_aload_n (pc := 98) dX11_night_98 rfl ?_
            refine bd_getr (pc := 99) hq dX11_night_99 fl_11_12_11 rfl (fun v15 hq => ?_)
            refine bd_getr (pc := 102) hq dX11_night_102 fl_11_196_10 rfl (fun v16 hq => ?_)
            refine st_iload (pc := 105) dX11_night_105 rfl ?_
            refine st_iload (pc := 107) dX11_night_107 rfl ?_
            refine st_iload_n (pc := 109) dX11_night_109 rfl ?_
            refine st_iload_n (pc := 110) dX11_night_110 rfl ?_
            obtain ⟨⟨hbq17, hkq17⟩, hq⟩ := mh_oi hq
            obtain ⟨q17, e17, hq⟩ := mh_ob hq
            refine st_invV (pc := 111) (ci := 1) (vs := [.int (q5.1 &&& (q10.1 ^^^ (-1 : Int32))), .int q12.1, .int l1, .int l2]) (rest := []) (st2 := []) dX11_night_111 okX1_planNight (by decide) hkq17 hbq17 wd_984 wd_985 wd_986 pdX1_planNight rfl rfl rfl rfl (Nat.le_trans (by decide) hd) (Nat.le_of_ble_eq_true rfl) (T_X1_planNight (Nat.le_refl _) e17) rfl ?_
            refine st_aload_n (pc := 114) dX11_night_114 rfl ?_
            refine bd_getr (pc := 115) hq dX11_night_115 fl_11_12_11 rfl (fun v18 hq => ?_)
            refine bd_getr (pc := 118) hq dX11_night_118 fl_11_196_10 rfl (fun v19 hq => ?_)
            refine bd_getr (pc := 121) hq dX11_night_121 fl_11_326_1 rfl (fun v20 hq => ?_)
            refine st_iload_n (pc := 124) dX11_night_124 rfl ?_
            refine bd_iald (pc := 125) hq dX11_night_125 (fun v21 hq => ?_)
            exact bd_iret (pc := 126) hq dX11_night_126 rfl
          ·
            refine st_lesS (lv' := [some (.ref l0), none, none, none, none, none]) ⟨Or.inr rfl, Or.inl rfl, Or.inl rfl, Or.inl rfl, Or.inl rfl, Or.inl rfl, trivial⟩ ?_
            exact T_X11_night_92 hd hq
-- HoleWater$Looks.isFullBottle(II)Z
theorem dX1_isFullBottle_0 : decode cX1_isFullBottle 0 = .ok (.aload_n 0, 1) := by decide +kernel
theorem dX1_isFullBottle_1 : decode cX1_isFullBottle 1 = .ok (.iload_n 1, 1) := by decide +kernel
theorem dX1_isFullBottle_2 : decode cX1_isFullBottle 2 = .ok (.iconst 1, 1) := by decide +kernel
theorem dX1_isFullBottle_3 : decode cX1_isFullBottle 3 = .ok (.invokevirtual 60, 3) := by decide +kernel
theorem dX1_isFullBottle_6 : decode cX1_isFullBottle 6 = .ok (.iload_n 2, 1) := by decide +kernel
theorem dX1_isFullBottle_7 : decode cX1_isFullBottle 7 = .ok (.if_icmp .ne 24, 3) := by decide +kernel
theorem dX1_isFullBottle_10 : decode cX1_isFullBottle 10 = .ok (.aload_n 0, 1) := by decide +kernel
theorem dX1_isFullBottle_11 : decode cX1_isFullBottle 11 = .ok (.iload_n 1, 1) := by decide +kernel
theorem dX1_isFullBottle_12 : decode cX1_isFullBottle 12 = .ok (.iconst 3, 1) := by decide +kernel
theorem dX1_isFullBottle_13 : decode cX1_isFullBottle 13 = .ok (.invokevirtual 60, 3) := by decide +kernel
theorem dX1_isFullBottle_16 : decode cX1_isFullBottle 16 = .ok (.ifCond .ne 15, 3) := by decide +kernel
theorem dX1_isFullBottle_19 : decode cX1_isFullBottle 19 = .ok (.aload_n 0, 1) := by decide +kernel
theorem dX1_isFullBottle_20 : decode cX1_isFullBottle 20 = .ok (.iload_n 1, 1) := by decide +kernel
theorem dX1_isFullBottle_21 : decode cX1_isFullBottle 21 = .ok (.invokevirtual 70, 3) := by decide +kernel
theorem dX1_isFullBottle_24 : decode cX1_isFullBottle 24 = .ok (.ifCond .eq 7, 3) := by decide +kernel
theorem dX1_isFullBottle_31 : decode cX1_isFullBottle 31 = .ok (.iconst 0, 1) := by decide +kernel
theorem dX1_isFullBottle_32 : decode cX1_isFullBottle 32 = .ok (.ireturn, 1) := by decide +kernel
theorem dX1_isFullBottle_27 : decode cX1_isFullBottle 27 = .ok (.iconst 1, 1) := by decide +kernel
theorem dX1_isFullBottle_28 : decode cX1_isFullBottle 28 = .ok (.goto 4, 3) := by decide +kernel
def D_X1_isFullBottle (N : Nat) (h : mh_H) (l0 : Nat) (l1 : Int32) (l2 : Int32) : Option (Int32 × mh_H) :=
  kO h 1 l0 <|
  (D_X1_lookPart N h l0 l1 (1 : Int32)).bind fun q1 =>
  if q1.1 = l2 then (kO q1.2 1 l0 <|
  (D_X1_lookPart N q1.2 l0 l1 (3 : Int32)).bind fun q2 =>
  if q2.1 = 0 then (kO q2.2 1 l0 <|
  (D_X1_saw N q2.2 l0 l1).bind fun q3 =>
  if q3.1 = 0 then (zB (0 : Int32) q3.2)
  else (zB (1 : Int32) q3.2))
  else (zB (0 : Int32) q2.2))
  else (zB (0 : Int32) q1.2)
set_option maxHeartbeats 4000000 in
set_option maxRecDepth 100000 in
theorem T_X1_isFullBottle {P : mh_E → Prop} {N d : Nat} (hd : 3 ≤ d) {z : (Int32 × mh_H)} {h : mh_H} {l0 : Nat} {l1 : Int32} {l2 : Int32} (hq : D_X1_isFullBottle N h l0 l1 l2 = some z) : mh_go P d mX1_isFullBottle 0 [some (.ref l0), some (.int l1), some (.int l2)] [] h (some (.int z.1)) z.2 := by
  unfold D_X1_isFullBottle at hq
  refine st_aload_n (pc := 0) dX1_isFullBottle_0 rfl ?_
  refine st_iload_n (pc := 1) dX1_isFullBottle_1 rfl ?_
  refine st_iconst (pc := 2) (v := (1 : Int32)) dX1_isFullBottle_2 rfl ?_
  obtain ⟨⟨hbq1, hkq1⟩, hq⟩ := mh_oi hq
  obtain ⟨q1, e1, hq⟩ := mh_ob hq
  refine st_invV (pc := 3) (ci := 1) (vs := [.int l1, .int (1 : Int32)]) (rest := []) (st2 := [.int q1.1]) dX1_isFullBottle_3 okX1_lookPart (by decide) hkq1 hbq1 wd_883 wd_884 wd_885 pdX1_lookPart rfl rfl rfl rfl (Nat.le_trans (by decide) hd) (Nat.le_of_ble_eq_true rfl) (T_X1_lookPart (Nat.le_refl _) e1) rfl ?_
  refine st_iload_n (pc := 6) dX1_isFullBottle_6 rfl ?_
  refine bd_icmp_ne (pc := 7) (tgt := 31) hq dX1_isFullBottle_7 (by decide) (fun _ hq => ?_) (fun _ hq => ?_)
  ·
    refine st_aload_n (pc := 10) dX1_isFullBottle_10 rfl ?_
    refine st_iload_n (pc := 11) dX1_isFullBottle_11 rfl ?_
    refine st_iconst (pc := 12) (v := (3 : Int32)) dX1_isFullBottle_12 rfl ?_
    obtain ⟨⟨hbq2, hkq2⟩, hq⟩ := mh_oi hq
    obtain ⟨q2, e2, hq⟩ := mh_ob hq
    refine st_invV (pc := 13) (ci := 1) (vs := [.int l1, .int (3 : Int32)]) (rest := []) (st2 := [.int q2.1]) dX1_isFullBottle_13 okX1_lookPart (by decide) hkq2 hbq2 wd_883 wd_884 wd_885 pdX1_lookPart rfl rfl rfl rfl (Nat.le_trans (by decide) hd) (Nat.le_of_ble_eq_true rfl) (T_X1_lookPart (Nat.le_refl _) e2) rfl ?_
    refine bd_if_ne (pc := 16) (tgt := 31) hq dX1_isFullBottle_16 (by decide) (fun _ hq => ?_) (fun _ hq => ?_)
    ·
      refine st_aload_n (pc := 19) dX1_isFullBottle_19 rfl ?_
      refine st_iload_n (pc := 20) dX1_isFullBottle_20 rfl ?_
      obtain ⟨⟨hbq3, hkq3⟩, hq⟩ := mh_oi hq
      obtain ⟨q3, e3, hq⟩ := mh_ob hq
      refine st_invV (pc := 21) (ci := 1) (vs := [.int l1]) (rest := []) (st2 := [.int q3.1]) dX1_isFullBottle_21 okX1_saw (by decide) hkq3 hbq3 wd_892 wd_894 wp_27 pdX1_saw rfl rfl rfl rfl (Nat.le_trans (by decide) hd) (Nat.le_of_ble_eq_true rfl) (T_X1_saw (Nat.le_refl _) e3) rfl ?_
      refine bd_if_eq (pc := 24) (tgt := 31) hq dX1_isFullBottle_24 (by decide) (fun _ hq => ?_) (fun _ hq => ?_)
      ·
        refine st_iconst (pc := 31) (v := (0 : Int32)) dX1_isFullBottle_31 rfl ?_
        exact bd_zret (pc := 32) hq dX1_isFullBottle_32 rfl
      ·
        refine st_iconst (pc := 27) (v := (1 : Int32)) dX1_isFullBottle_27 rfl ?_
        refine st_goto (pc := 28) (tgt := 32) dX1_isFullBottle_28 (by decide) ?_
        exact bd_zret (pc := 32) hq dX1_isFullBottle_32 rfl
    ·
      refine st_iconst (pc := 31) (v := (0 : Int32)) dX1_isFullBottle_31 rfl ?_
      exact bd_zret (pc := 32) hq dX1_isFullBottle_32 rfl
  ·
    refine st_iconst (pc := 31) (v := (0 : Int32)) dX1_isFullBottle_31 rfl ?_
    exact bd_zret (pc := 32) hq dX1_isFullBottle_32 rfl
-- HoleWater$Looks.wasSeenAhead(II)Z
theorem dX1_wasSeenAhead_48 : decode cX1_wasSeenAhead 48 = .ok (.iinc 3 1, 3) := by decide +kernel
theorem dX1_wasSeenAhead_51 : decode cX1_wasSeenAhead 51 = .ok (.goto (-49), 3) := by decide +kernel
theorem dX1_wasSeenAhead_2 : decode cX1_wasSeenAhead 2 = .ok (.iload_n 3, 1) := by decide +kernel
theorem dX1_wasSeenAhead_3 : decode cX1_wasSeenAhead 3 = .ok (.iload_n 1, 1) := by decide +kernel
theorem dX1_wasSeenAhead_4 : decode cX1_wasSeenAhead 4 = .ok (.if_icmp .ge 50, 3) := by decide +kernel
theorem dX1_wasSeenAhead_54 : decode cX1_wasSeenAhead 54 = .ok (.iconst 0, 1) := by decide +kernel
theorem dX1_wasSeenAhead_55 : decode cX1_wasSeenAhead 55 = .ok (.ireturn, 1) := by decide +kernel
theorem dX1_wasSeenAhead_7 : decode cX1_wasSeenAhead 7 = .ok (.aload_n 0, 1) := by decide +kernel
theorem dX1_wasSeenAhead_8 : decode cX1_wasSeenAhead 8 = .ok (.iload_n 3, 1) := by decide +kernel
theorem dX1_wasSeenAhead_9 : decode cX1_wasSeenAhead 9 = .ok (.iload_n 2, 1) := by decide +kernel
theorem dX1_wasSeenAhead_10 : decode cX1_wasSeenAhead 10 = .ok (.invokevirtual 79, 3) := by decide +kernel
theorem dX1_wasSeenAhead_13 : decode cX1_wasSeenAhead 13 = .ok (.ifCond .eq 35, 3) := by decide +kernel
theorem dX1_wasSeenAhead_16 : decode cX1_wasSeenAhead 16 = .ok (.aload_n 0, 1) := by decide +kernel
theorem dX1_wasSeenAhead_17 : decode cX1_wasSeenAhead 17 = .ok (.iload_n 3, 1) := by decide +kernel
theorem dX1_wasSeenAhead_18 : decode cX1_wasSeenAhead 18 = .ok (.iconst 0, 1) := by decide +kernel
theorem dX1_wasSeenAhead_19 : decode cX1_wasSeenAhead 19 = .ok (.invokevirtual 60, 3) := by decide +kernel
theorem dX1_wasSeenAhead_22 : decode cX1_wasSeenAhead 22 = .ok (.aload_n 0, 1) := by decide +kernel
theorem dX1_wasSeenAhead_23 : decode cX1_wasSeenAhead 23 = .ok (.iload_n 1, 1) := by decide +kernel
theorem dX1_wasSeenAhead_24 : decode cX1_wasSeenAhead 24 = .ok (.iconst 0, 1) := by decide +kernel
theorem dX1_wasSeenAhead_25 : decode cX1_wasSeenAhead 25 = .ok (.invokevirtual 60, 3) := by decide +kernel
theorem dX1_wasSeenAhead_28 : decode cX1_wasSeenAhead 28 = .ok (.if_icmp .ne 20, 3) := by decide +kernel
theorem dX1_wasSeenAhead_31 : decode cX1_wasSeenAhead 31 = .ok (.aload_n 0, 1) := by decide +kernel
theorem dX1_wasSeenAhead_32 : decode cX1_wasSeenAhead 32 = .ok (.iload_n 3, 1) := by decide +kernel
theorem dX1_wasSeenAhead_33 : decode cX1_wasSeenAhead 33 = .ok (.iconst 2, 1) := by decide +kernel
theorem dX1_wasSeenAhead_34 : decode cX1_wasSeenAhead 34 = .ok (.invokevirtual 60, 3) := by decide +kernel
theorem dX1_wasSeenAhead_37 : decode cX1_wasSeenAhead 37 = .ok (.aload_n 0, 1) := by decide +kernel
theorem dX1_wasSeenAhead_38 : decode cX1_wasSeenAhead 38 = .ok (.iload_n 1, 1) := by decide +kernel
theorem dX1_wasSeenAhead_39 : decode cX1_wasSeenAhead 39 = .ok (.iconst 2, 1) := by decide +kernel
theorem dX1_wasSeenAhead_40 : decode cX1_wasSeenAhead 40 = .ok (.invokevirtual 60, 3) := by decide +kernel
theorem dX1_wasSeenAhead_43 : decode cX1_wasSeenAhead 43 = .ok (.if_icmp .ne 5, 3) := by decide +kernel
theorem dX1_wasSeenAhead_46 : decode cX1_wasSeenAhead 46 = .ok (.iconst 1, 1) := by decide +kernel
theorem dX1_wasSeenAhead_47 : decode cX1_wasSeenAhead 47 = .ok (.ireturn, 1) := by decide +kernel
theorem dX1_wasSeenAhead_0 : decode cX1_wasSeenAhead 0 = .ok (.iconst 0, 1) := by decide +kernel
theorem dX1_wasSeenAhead_1 : decode cX1_wasSeenAhead 1 = .ok (.istore_n 3, 1) := by decide +kernel
def D_X1_wasSeenAhead_48 (N : Nat) (k2 : mh_H → Nat → Int32 → Int32 → Int32 → Option (Int32 × mh_H)) (h : mh_H) (l0 : Nat) (l1 : Int32) (l2 : Int32) (l3 : Int32) : Option (Int32 × mh_H) :=
  k2 h l0 l1 l2 (l3 + Int32.ofInt (1))
set_option maxHeartbeats 4000000 in
set_option maxRecDepth 100000 in
theorem T_X1_wasSeenAhead_48 {P : mh_E → Prop} {N d : Nat} (hd : 4 ≤ d) {z : (Int32 × mh_H)} {k2 : mh_H → Nat → Int32 → Int32 → Int32 → Option (Int32 × mh_H)} (hk2 : ∀ (h : mh_H) (l0 : Nat) (l1 : Int32) (l2 : Int32) (l3 : Int32), k2 h l0 l1 l2 l3 = some z → mh_go P d mX1_wasSeenAhead 2 [some (.ref l0), some (.int l1), some (.int l2), some (.int l3)] [] h (some (.int z.1)) z.2) {h : mh_H} {l0 : Nat} {l1 : Int32} {l2 : Int32} {l3 : Int32} (hq : D_X1_wasSeenAhead_48 N k2 h l0 l1 l2 l3 = some z) : mh_go P d mX1_wasSeenAhead 48 [some (.ref l0), some (.int l1), some (.int l2), some (.int l3)] [] h (some (.int z.1)) z.2 := by
  unfold D_X1_wasSeenAhead_48 at hq
  refine st_iinc (pc := 48) (lv' := [some (.ref l0), some (.int l1), some (.int l2), some (.int (l3 + Int32.ofInt (1)))]) dX1_wasSeenAhead_48 rfl rfl (by decide) rfl ?_
  refine st_goto (pc := 51) (tgt := 2) dX1_wasSeenAhead_51 (by decide) ?_
  exact hk2 _ _ _ _ _ hq
def D_X1_wasSeenAhead_2 (N : Nat) : Nat → mh_H → Nat → Int32 → Int32 → Int32 → Option (Int32 × mh_H)
  | 0, _, _, _, _, _ => none
  | F + 1, h, l0, l1, l2, l3 =>
    if l1 ≤ l3 then (zB (0 : Int32) h)
    else (kO h 1 l0 <|
    (D_X1_isFullBottle N h l0 l3 l2).bind fun q1 =>
    if q1.1 = 0 then (D_X1_wasSeenAhead_48 N (D_X1_wasSeenAhead_2 N F) q1.2 l0 l1 l2 l3)
    else (kO q1.2 1 l0 <|
    (D_X1_lookPart N q1.2 l0 l3 (0 : Int32)).bind fun q2 =>
    kO q2.2 1 l0 <|
    (D_X1_lookPart N q2.2 l0 l1 (0 : Int32)).bind fun q3 =>
    if q2.1 = q3.1 then (kO q3.2 1 l0 <|
    (D_X1_lookPart N q3.2 l0 l3 (2 : Int32)).bind fun q4 =>
    kO q4.2 1 l0 <|
    (D_X1_lookPart N q4.2 l0 l1 (2 : Int32)).bind fun q5 =>
    if q4.1 = q5.1 then (zB (1 : Int32) q5.2)
    else (D_X1_wasSeenAhead_48 N (D_X1_wasSeenAhead_2 N F) q5.2 l0 l1 l2 l3))
    else (D_X1_wasSeenAhead_48 N (D_X1_wasSeenAhead_2 N F) q3.2 l0 l1 l2 l3)))
set_option maxHeartbeats 4000000 in
set_option maxRecDepth 100000 in
theorem T_X1_wasSeenAhead_2 {P : mh_E → Prop} {N d : Nat} (hd : 4 ≤ d) {z : (Int32 × mh_H)} : ∀ (F : Nat) (h : mh_H) (l0 : Nat) (l1 : Int32) (l2 : Int32) (l3 : Int32), D_X1_wasSeenAhead_2 N F h l0 l1 l2 l3 = some z → mh_go P d mX1_wasSeenAhead 2 [some (.ref l0), some (.int l1), some (.int l2), some (.int l3)] [] h (some (.int z.1)) z.2 := by
  intro F
  induction F with
  | zero => intro h l0 l1 l2 l3 hq; rw [D_X1_wasSeenAhead_2] at hq; cases hq
  | succ F ih =>
    intro h l0 l1 l2 l3 hq
    rw [D_X1_wasSeenAhead_2] at hq
    refine st_iload_n (pc := 2) dX1_wasSeenAhead_2 rfl ?_
    refine st_iload_n (pc := 3) dX1_wasSeenAhead_3 rfl ?_
    refine bd_icmp_ge (pc := 4) (tgt := 54) hq dX1_wasSeenAhead_4 (by decide) (fun _ hq => ?_) (fun _ hq => ?_)
    ·
      refine st_iconst (pc := 54) (v := (0 : Int32)) dX1_wasSeenAhead_54 rfl ?_
      exact bd_zret (pc := 55) hq dX1_wasSeenAhead_55 rfl
    ·
      refine st_aload_n (pc := 7) dX1_wasSeenAhead_7 rfl ?_
      refine st_iload_n (pc := 8) dX1_wasSeenAhead_8 rfl ?_
      refine st_iload_n (pc := 9) dX1_wasSeenAhead_9 rfl ?_
      obtain ⟨⟨hbq1, hkq1⟩, hq⟩ := mh_oi hq
      obtain ⟨q1, e1, hq⟩ := mh_ob hq
      refine st_invV (pc := 10) (ci := 1) (vs := [.int l3, .int l2]) (rest := []) (st2 := [.int q1.1]) dX1_wasSeenAhead_10 okX1_isFullBottle (by decide) hkq1 hbq1 wd_1004 wd_1006 wp_35 pdX1_isFullBottle rfl rfl rfl rfl (Nat.le_trans (by decide) hd) (Nat.le_of_ble_eq_true rfl) (T_X1_isFullBottle (Nat.le_refl _) e1) rfl ?_
      refine bd_if_eq (pc := 13) (tgt := 48) hq dX1_wasSeenAhead_13 (by decide) (fun _ hq => ?_) (fun _ hq => ?_)
      ·
        exact T_X1_wasSeenAhead_48 hd ih hq
      ·
        refine st_aload_n (pc := 16) dX1_wasSeenAhead_16 rfl ?_
        refine st_iload_n (pc := 17) dX1_wasSeenAhead_17 rfl ?_
        refine st_iconst (pc := 18) (v := (0 : Int32)) dX1_wasSeenAhead_18 rfl ?_
        obtain ⟨⟨hbq2, hkq2⟩, hq⟩ := mh_oi hq
        obtain ⟨q2, e2, hq⟩ := mh_ob hq
        refine st_invV (pc := 19) (ci := 1) (vs := [.int l3, .int (0 : Int32)]) (rest := []) (st2 := [.int q2.1]) dX1_wasSeenAhead_19 okX1_lookPart (by decide) hkq2 hbq2 wd_883 wd_884 wd_885 pdX1_lookPart rfl rfl rfl rfl (Nat.le_trans (by decide) hd) (Nat.le_of_ble_eq_true rfl) (T_X1_lookPart (Nat.le_refl _) e2) rfl ?_
        refine st_aload_n (pc := 22) dX1_wasSeenAhead_22 rfl ?_
        refine st_iload_n (pc := 23) dX1_wasSeenAhead_23 rfl ?_
        refine st_iconst (pc := 24) (v := (0 : Int32)) dX1_wasSeenAhead_24 rfl ?_
        obtain ⟨⟨hbq3, hkq3⟩, hq⟩ := mh_oi hq
        obtain ⟨q3, e3, hq⟩ := mh_ob hq
        refine st_invV (pc := 25) (ci := 1) (vs := [.int l1, .int (0 : Int32)]) (rest := [.int q2.1]) (st2 := [.int q3.1, .int q2.1]) dX1_wasSeenAhead_25 okX1_lookPart (by decide) hkq3 hbq3 wd_883 wd_884 wd_885 pdX1_lookPart rfl rfl rfl rfl (Nat.le_trans (by decide) hd) (Nat.le_of_ble_eq_true rfl) (T_X1_lookPart (Nat.le_refl _) e3) rfl ?_
        refine bd_icmp_ne (pc := 28) (tgt := 48) hq dX1_wasSeenAhead_28 (by decide) (fun _ hq => ?_) (fun _ hq => ?_)
        ·
          refine st_aload_n (pc := 31) dX1_wasSeenAhead_31 rfl ?_
          refine st_iload_n (pc := 32) dX1_wasSeenAhead_32 rfl ?_
          refine st_iconst (pc := 33) (v := (2 : Int32)) dX1_wasSeenAhead_33 rfl ?_
          obtain ⟨⟨hbq4, hkq4⟩, hq⟩ := mh_oi hq
          obtain ⟨q4, e4, hq⟩ := mh_ob hq
          refine st_invV (pc := 34) (ci := 1) (vs := [.int l3, .int (2 : Int32)]) (rest := []) (st2 := [.int q4.1]) dX1_wasSeenAhead_34 okX1_lookPart (by decide) hkq4 hbq4 wd_883 wd_884 wd_885 pdX1_lookPart rfl rfl rfl rfl (Nat.le_trans (by decide) hd) (Nat.le_of_ble_eq_true rfl) (T_X1_lookPart (Nat.le_refl _) e4) rfl ?_
          refine st_aload_n (pc := 37) dX1_wasSeenAhead_37 rfl ?_
          refine st_iload_n (pc := 38) dX1_wasSeenAhead_38 rfl ?_
          refine st_iconst (pc := 39) (v := (2 : Int32)) dX1_wasSeenAhead_39 rfl ?_
          obtain ⟨⟨hbq5, hkq5⟩, hq⟩ := mh_oi hq
          obtain ⟨q5, e5, hq⟩ := mh_ob hq
          refine st_invV (pc := 40) (ci := 1) (vs := [.int l1, .int (2 : Int32)]) (rest := [.int q4.1]) (st2 := [.int q5.1, .int q4.1]) dX1_wasSeenAhead_40 okX1_lookPart (by decide) hkq5 hbq5 wd_883 wd_884 wd_885 pdX1_lookPart rfl rfl rfl rfl (Nat.le_trans (by decide) hd) (Nat.le_of_ble_eq_true rfl) (T_X1_lookPart (Nat.le_refl _) e5) rfl ?_
          refine bd_icmp_ne (pc := 43) (tgt := 48) hq dX1_wasSeenAhead_43 (by decide) (fun _ hq => ?_) (fun _ hq => ?_)
          ·
            refine st_iconst (pc := 46) (v := (1 : Int32)) dX1_wasSeenAhead_46 rfl ?_
            exact bd_zret (pc := 47) hq dX1_wasSeenAhead_47 rfl
          ·
            exact T_X1_wasSeenAhead_48 hd ih hq
        ·
          exact T_X1_wasSeenAhead_48 hd ih hq
def D_X1_wasSeenAhead (N : Nat) (h : mh_H) (l0 : Nat) (l1 : Int32) (l2 : Int32) : Option (Int32 × mh_H) :=
  D_X1_wasSeenAhead_2 N N h l0 l1 l2 (0 : Int32)
set_option maxHeartbeats 4000000 in
set_option maxRecDepth 100000 in
theorem T_X1_wasSeenAhead {P : mh_E → Prop} {N d : Nat} (hd : 4 ≤ d) {z : (Int32 × mh_H)} {h : mh_H} {l0 : Nat} {l1 : Int32} {l2 : Int32} (hq : D_X1_wasSeenAhead N h l0 l1 l2 = some z) : mh_go P d mX1_wasSeenAhead 0 [some (.ref l0), some (.int l1), some (.int l2), none] [] h (some (.int z.1)) z.2 := by
  unfold D_X1_wasSeenAhead at hq
  refine st_iconst (pc := 0) (v := (0 : Int32)) dX1_wasSeenAhead_0 rfl ?_
  refine st_istore_n (pc := 1) (lv' := [some (.ref l0), some (.int l1), some (.int l2), some (.int (0 : Int32))]) dX1_wasSeenAhead_1 rfl (by decide) rfl ?_
  exact T_X1_wasSeenAhead_2 hd N _ _ _ _ _ hq
-- HoleWater$Looks.seenInBottles(I)I
theorem dX1_seenInBottles_40 : decode cX1_seenInBottles 40 = .ok (.iinc 3 1, 3) := by decide +kernel
theorem dX1_seenInBottles_43 : decode cX1_seenInBottles 43 = .ok (.goto (-39), 3) := by decide +kernel
theorem dX1_seenInBottles_4 : decode cX1_seenInBottles 4 = .ok (.iload_n 3, 1) := by decide +kernel
theorem dX1_seenInBottles_5 : decode cX1_seenInBottles 5 = .ok (.aload_n 0, 1) := by decide +kernel
theorem dX1_seenInBottles_6 : decode cX1_seenInBottles 6 = .ok (.getfield 15, 3) := by decide +kernel
theorem dX1_seenInBottles_9 : decode cX1_seenInBottles 9 = .ok (.if_icmp .ge 37, 3) := by decide +kernel
theorem dX1_seenInBottles_46 : decode cX1_seenInBottles 46 = .ok (.iload_n 2, 1) := by decide +kernel
theorem dX1_seenInBottles_47 : decode cX1_seenInBottles 47 = .ok (.ireturn, 1) := by decide +kernel
theorem dX1_seenInBottles_12 : decode cX1_seenInBottles 12 = .ok (.aload_n 0, 1) := by decide +kernel
theorem dX1_seenInBottles_13 : decode cX1_seenInBottles 13 = .ok (.iload_n 3, 1) := by decide +kernel
theorem dX1_seenInBottles_14 : decode cX1_seenInBottles 14 = .ok (.iload_n 1, 1) := by decide +kernel
theorem dX1_seenInBottles_15 : decode cX1_seenInBottles 15 = .ok (.invokevirtual 79, 3) := by decide +kernel
theorem dX1_seenInBottles_18 : decode cX1_seenInBottles 18 = .ok (.ifCond .eq 22, 3) := by decide +kernel
theorem dX1_seenInBottles_21 : decode cX1_seenInBottles 21 = .ok (.aload_n 0, 1) := by decide +kernel
theorem dX1_seenInBottles_22 : decode cX1_seenInBottles 22 = .ok (.iload_n 3, 1) := by decide +kernel
theorem dX1_seenInBottles_23 : decode cX1_seenInBottles 23 = .ok (.iload_n 1, 1) := by decide +kernel
theorem dX1_seenInBottles_24 : decode cX1_seenInBottles 24 = .ok (.invokevirtual 83, 3) := by decide +kernel
theorem dX1_seenInBottles_27 : decode cX1_seenInBottles 27 = .ok (.ifCond .ne 13, 3) := by decide +kernel
theorem dX1_seenInBottles_30 : decode cX1_seenInBottles 30 = .ok (.iload_n 2, 1) := by decide +kernel
theorem dX1_seenInBottles_31 : decode cX1_seenInBottles 31 = .ok (.aload_n 0, 1) := by decide +kernel
theorem dX1_seenInBottles_32 : decode cX1_seenInBottles 32 = .ok (.iload_n 3, 1) := by decide +kernel
theorem dX1_seenInBottles_33 : decode cX1_seenInBottles 33 = .ok (.bipush 6, 2) := by decide +kernel
theorem dX1_seenInBottles_35 : decode cX1_seenInBottles 35 = .ok (.invokevirtual 60, 3) := by decide +kernel
theorem dX1_seenInBottles_38 : decode cX1_seenInBottles 38 = .ok (.iadd, 1) := by decide +kernel
theorem dX1_seenInBottles_39 : decode cX1_seenInBottles 39 = .ok (.istore_n 2, 1) := by decide +kernel
theorem dX1_seenInBottles_0 : decode cX1_seenInBottles 0 = .ok (.iconst 0, 1) := by decide +kernel
theorem dX1_seenInBottles_1 : decode cX1_seenInBottles 1 = .ok (.istore_n 2, 1) := by decide +kernel
theorem dX1_seenInBottles_2 : decode cX1_seenInBottles 2 = .ok (.iconst 0, 1) := by decide +kernel
theorem dX1_seenInBottles_3 : decode cX1_seenInBottles 3 = .ok (.istore_n 3, 1) := by decide +kernel
def D_X1_seenInBottles_40 (N : Nat) (k4 : mh_H → Nat → Int32 → Int32 → Int32 → Option (Int32 × mh_H)) (h : mh_H) (l0 : Nat) (l1 : Int32) (l2 : Int32) (l3 : Int32) : Option (Int32 × mh_H) :=
  k4 h l0 l1 l2 (l3 + Int32.ofInt (1))
set_option maxHeartbeats 4000000 in
set_option maxRecDepth 100000 in
theorem T_X1_seenInBottles_40 {P : mh_E → Prop} {N d : Nat} (hd : 5 ≤ d) {z : (Int32 × mh_H)} {k4 : mh_H → Nat → Int32 → Int32 → Int32 → Option (Int32 × mh_H)} (hk4 : ∀ (h : mh_H) (l0 : Nat) (l1 : Int32) (l2 : Int32) (l3 : Int32), k4 h l0 l1 l2 l3 = some z → mh_go P d mX1_seenInBottles 4 [some (.ref l0), some (.int l1), some (.int l2), some (.int l3)] [] h (some (.int z.1)) z.2) {h : mh_H} {l0 : Nat} {l1 : Int32} {l2 : Int32} {l3 : Int32} (hq : D_X1_seenInBottles_40 N k4 h l0 l1 l2 l3 = some z) : mh_go P d mX1_seenInBottles 40 [some (.ref l0), some (.int l1), some (.int l2), some (.int l3)] [] h (some (.int z.1)) z.2 := by
  unfold D_X1_seenInBottles_40 at hq
  refine st_iinc (pc := 40) (lv' := [some (.ref l0), some (.int l1), some (.int l2), some (.int (l3 + Int32.ofInt (1)))]) dX1_seenInBottles_40 rfl rfl (by decide) rfl ?_
  refine st_goto (pc := 43) (tgt := 4) dX1_seenInBottles_43 (by decide) ?_
  exact hk4 _ _ _ _ _ hq
def D_X1_seenInBottles_4 (N : Nat) : Nat → mh_H → Nat → Int32 → Int32 → Int32 → Option (Int32 × mh_H)
  | 0, _, _, _, _, _ => none
  | F + 1, h, l0, l1, l2, l3 =>
    (gI h 1 l0 1).bind fun v1 =>
    if v1 ≤ l3 then (some (l2, h))
    else (kO h 1 l0 <|
    (D_X1_isFullBottle N h l0 l3 l1).bind fun q2 =>
    if q2.1 = 0 then (D_X1_seenInBottles_40 N (D_X1_seenInBottles_4 N F) q2.2 l0 l1 l2 l3)
    else (kO q2.2 1 l0 <|
    (D_X1_wasSeenAhead N q2.2 l0 l3 l1).bind fun q3 =>
    if q3.1 = 0 then (kO q3.2 1 l0 <|
    (D_X1_lookPart N q3.2 l0 l3 (6 : Int32)).bind fun q4 =>
    D_X1_seenInBottles_40 N (D_X1_seenInBottles_4 N F) q4.2 l0 l1 (l2 + q4.1) l3)
    else (D_X1_seenInBottles_40 N (D_X1_seenInBottles_4 N F) q3.2 l0 l1 l2 l3)))
set_option maxHeartbeats 4000000 in
set_option maxRecDepth 100000 in
theorem T_X1_seenInBottles_4 {P : mh_E → Prop} {N d : Nat} (hd : 5 ≤ d) {z : (Int32 × mh_H)} : ∀ (F : Nat) (h : mh_H) (l0 : Nat) (l1 : Int32) (l2 : Int32) (l3 : Int32), D_X1_seenInBottles_4 N F h l0 l1 l2 l3 = some z → mh_go P d mX1_seenInBottles 4 [some (.ref l0), some (.int l1), some (.int l2), some (.int l3)] [] h (some (.int z.1)) z.2 := by
  intro F
  induction F with
  | zero => intro h l0 l1 l2 l3 hq; rw [D_X1_seenInBottles_4] at hq; cases hq
  | succ F ih =>
    intro h l0 l1 l2 l3 hq
    rw [D_X1_seenInBottles_4] at hq
    refine st_iload_n (pc := 4) dX1_seenInBottles_4 rfl ?_
    refine st_aload_n (pc := 5) dX1_seenInBottles_5 rfl ?_
    refine bd_geti (pc := 6) hq dX1_seenInBottles_6 fl_1_15_1 rfl (fun v1 hq => ?_)
    refine bd_icmp_ge (pc := 9) (tgt := 46) hq dX1_seenInBottles_9 (by decide) (fun _ hq => ?_) (fun _ hq => ?_)
    ·
      refine st_iload_n (pc := 46) dX1_seenInBottles_46 rfl ?_
      exact bd_iret (pc := 47) hq dX1_seenInBottles_47 rfl
    ·
      refine st_aload_n (pc := 12) dX1_seenInBottles_12 rfl ?_
      refine st_iload_n (pc := 13) dX1_seenInBottles_13 rfl ?_
      refine st_iload_n (pc := 14) dX1_seenInBottles_14 rfl ?_
      obtain ⟨⟨hbq2, hkq2⟩, hq⟩ := mh_oi hq
      obtain ⟨q2, e2, hq⟩ := mh_ob hq
      refine st_invV (pc := 15) (ci := 1) (vs := [.int l3, .int l1]) (rest := []) (st2 := [.int q2.1]) dX1_seenInBottles_15 okX1_isFullBottle (by decide) hkq2 hbq2 wd_1004 wd_1006 wp_35 pdX1_isFullBottle rfl rfl rfl rfl (Nat.le_trans (by decide) hd) (Nat.le_of_ble_eq_true rfl) (T_X1_isFullBottle (Nat.le_refl _) e2) rfl ?_
      refine bd_if_eq (pc := 18) (tgt := 40) hq dX1_seenInBottles_18 (by decide) (fun _ hq => ?_) (fun _ hq => ?_)
      ·
        exact T_X1_seenInBottles_40 hd ih hq
      ·
        refine st_aload_n (pc := 21) dX1_seenInBottles_21 rfl ?_
        refine st_iload_n (pc := 22) dX1_seenInBottles_22 rfl ?_
        refine st_iload_n (pc := 23) dX1_seenInBottles_23 rfl ?_
        obtain ⟨⟨hbq3, hkq3⟩, hq⟩ := mh_oi hq
        obtain ⟨q3, e3, hq⟩ := mh_ob hq
        refine st_invV (pc := 24) (ci := 1) (vs := [.int l3, .int l1]) (rest := []) (st2 := [.int q3.1]) dX1_seenInBottles_24 okX1_wasSeenAhead (by decide) hkq3 hbq3 wd_1008 wd_1010 wp_36 pdX1_wasSeenAhead rfl rfl rfl rfl (Nat.le_trans (by decide) hd) (Nat.le_of_ble_eq_true rfl) (T_X1_wasSeenAhead (Nat.le_refl _) e3) rfl ?_
        refine bd_if_ne (pc := 27) (tgt := 40) hq dX1_seenInBottles_27 (by decide) (fun _ hq => ?_) (fun _ hq => ?_)
        ·
          refine st_iload_n (pc := 30) dX1_seenInBottles_30 rfl ?_
          refine st_aload_n (pc := 31) dX1_seenInBottles_31 rfl ?_
          refine st_iload_n (pc := 32) dX1_seenInBottles_32 rfl ?_
          refine st_bipush (pc := 33) (v := (6 : Int32)) dX1_seenInBottles_33 (by decide) ?_
          obtain ⟨⟨hbq4, hkq4⟩, hq⟩ := mh_oi hq
          obtain ⟨q4, e4, hq⟩ := mh_ob hq
          refine st_invV (pc := 35) (ci := 1) (vs := [.int l3, .int (6 : Int32)]) (rest := [.int l2]) (st2 := [.int q4.1, .int l2]) dX1_seenInBottles_35 okX1_lookPart (by decide) hkq4 hbq4 wd_883 wd_884 wd_885 pdX1_lookPart rfl rfl rfl rfl (Nat.le_trans (by decide) hd) (Nat.le_of_ble_eq_true rfl) (T_X1_lookPart (Nat.le_refl _) e4) rfl ?_
          refine st_iadd (pc := 38) dX1_seenInBottles_38 ?_
          refine st_istore_n (pc := 39) (lv' := [some (.ref l0), some (.int l1), some (.int (l2 + q4.1)), some (.int l3)]) dX1_seenInBottles_39 rfl (by decide) rfl ?_
          exact T_X1_seenInBottles_40 hd ih hq
        ·
          exact T_X1_seenInBottles_40 hd ih hq
def D_X1_seenInBottles (N : Nat) (h : mh_H) (l0 : Nat) (l1 : Int32) : Option (Int32 × mh_H) :=
  D_X1_seenInBottles_4 N N h l0 l1 (0 : Int32) (0 : Int32)
set_option maxHeartbeats 4000000 in
set_option maxRecDepth 100000 in
theorem T_X1_seenInBottles {P : mh_E → Prop} {N d : Nat} (hd : 5 ≤ d) {z : (Int32 × mh_H)} {h : mh_H} {l0 : Nat} {l1 : Int32} (hq : D_X1_seenInBottles N h l0 l1 = some z) : mh_go P d mX1_seenInBottles 0 [some (.ref l0), some (.int l1), none, none] [] h (some (.int z.1)) z.2 := by
  unfold D_X1_seenInBottles at hq
  refine st_iconst (pc := 0) (v := (0 : Int32)) dX1_seenInBottles_0 rfl ?_
  refine st_istore_n (pc := 1) (lv' := [some (.ref l0), some (.int l1), some (.int (0 : Int32)), none]) dX1_seenInBottles_1 rfl (by decide) rfl ?_
  refine st_iconst (pc := 2) (v := (0 : Int32)) dX1_seenInBottles_2 rfl ?_
  refine st_istore_n (pc := 3) (lv' := [some (.ref l0), some (.int l1), some (.int (0 : Int32)), some (.int (0 : Int32))]) dX1_seenInBottles_3 rfl (by decide) rfl ?_
  exact T_X1_seenInBottles_4 hd N _ _ _ _ _ hq
-- HoleWater.share(I)I
theorem dX11_share_0 : decode cX11_share 0 = .ok (.iload_n 1, 1) := by decide +kernel
theorem dX11_share_1 : decode cX11_share 1 = .ok (.invokestatic 183, 3) := by decide +kernel
theorem dX11_share_4 : decode cX11_share 4 = .ok (.ifCond .ne 9, 3) := by decide +kernel
theorem dX11_share_7 : decode cX11_share 7 = .ok (.aload_n 0, 1) := by decide +kernel
theorem dX11_share_8 : decode cX11_share 8 = .ok (.iconst 1, 1) := by decide +kernel
theorem dX11_share_9 : decode cX11_share 9 = .ok (.invokevirtual 66, 3) := by decide +kernel
theorem dX11_share_12 : decode cX11_share 12 = .ok (.ireturn, 1) := by decide +kernel
theorem dX11_share_13 : decode cX11_share 13 = .ok (.aload_n 0, 1) := by decide +kernel
theorem dX11_share_14 : decode cX11_share 14 = .ok (.getfield 12, 3) := by decide +kernel
theorem dX11_share_17 : decode cX11_share 17 = .ok (.getfield 90, 3) := by decide +kernel
theorem dX11_share_20 : decode cX11_share 20 = .ok (.getfield 217, 3) := by decide +kernel
theorem dX11_share_23 : decode cX11_share 23 = .ok (.iload_n 1, 1) := by decide +kernel
theorem dX11_share_24 : decode cX11_share 24 = .ok (.bipush 7, 2) := by decide +kernel
theorem dX11_share_26 : decode cX11_share 26 = .ok (.imul, 1) := by decide +kernel
theorem dX11_share_27 : decode cX11_share 27 = .ok (.iconst 0, 1) := by decide +kernel
theorem dX11_share_28 : decode cX11_share 28 = .ok (.iadd, 1) := by decide +kernel
theorem dX11_share_29 : decode cX11_share 29 = .ok (.iaload, 1) := by decide +kernel
theorem dX11_share_30 : decode cX11_share 30 = .ok (.aload_n 0, 1) := by decide +kernel
theorem dX11_share_31 : decode cX11_share 31 = .ok (.getfield 12, 3) := by decide +kernel
theorem dX11_share_34 : decode cX11_share 34 = .ok (.getfield 196, 3) := by decide +kernel
theorem dX11_share_37 : decode cX11_share 37 = .ok (.iload_n 1, 1) := by decide +kernel
theorem dX11_share_38 : decode cX11_share 38 = .ok (.invokevirtual 329, 3) := by decide +kernel
theorem dX11_share_41 : decode cX11_share 41 = .ok (.isub, 1) := by decide +kernel
theorem dX11_share_42 : decode cX11_share 42 = .ok (.ireturn, 1) := by decide +kernel
def D_X11_share (N : Nat) (h : mh_H) (l0 : Nat) (l1 : Int32) : Option (Int32 × mh_H) :=
  (D_X11_isColour N h l1).bind fun q1 =>
  if q1.1 = 0 then (kO q1.2 11 l0 <|
  (D_X11_error N q1.2 l0 (1 : Int32)).bind fun q2 =>
  some (q2.1, q2.2))
  else ((gR q1.2 11 l0 0).bind fun v2 =>
  (gR q1.2 10 v2 7).bind fun v3 =>
  (gR q1.2 8 v3 4).bind fun v4 =>
  (aI q1.2 v4 ((l1 * (7 : Int32)) + (0 : Int32))).bind fun v5 =>
  (gR q1.2 11 l0 0).bind fun v6 =>
  (gR q1.2 10 v6 8).bind fun v7 =>
  kO q1.2 1 v7 <|
  (D_X1_seenInBottles N q1.2 v7 l1).bind fun q8 =>
  some (v5 - q8.1, q8.2))
set_option maxHeartbeats 4000000 in
set_option maxRecDepth 100000 in
theorem T_X11_share {P : mh_E → Prop} {N d : Nat} (hd : 6 ≤ d) {z : (Int32 × mh_H)} {h : mh_H} {l0 : Nat} {l1 : Int32} (hq : D_X11_share N h l0 l1 = some z) : mh_go P d mX11_share 0 [some (.ref l0), some (.int l1)] [] h (some (.int z.1)) z.2 := by
  unfold D_X11_share at hq
  refine st_iload_n (pc := 0) dX11_share_0 rfl ?_
  obtain ⟨q1, e1, hq⟩ := mh_ob hq
  refine st_invS (pc := 1) (Y := mX11_isColour) (vs := [.int l1]) (rest := []) (st2 := [.int q1.1]) dX11_share_1 okX11_isColour wd_506 wd_507 pdX11_isColour rfl rfl rfl rfl (Nat.le_trans (by decide) hd) (Nat.le_of_ble_eq_true rfl) (T_X11_isColour (Nat.le_refl _) e1) rfl ?_
  refine bd_if_ne (pc := 4) (tgt := 13) hq dX11_share_4 (by decide) (fun _ hq => ?_) (fun _ hq => ?_)
  ·
    refine st_aload_n (pc := 7) dX11_share_7 rfl ?_
    refine st_iconst (pc := 8) (v := (1 : Int32)) dX11_share_8 rfl ?_
    obtain ⟨⟨hbq2, hkq2⟩, hq⟩ := mh_oi hq
    obtain ⟨q2, e2, hq⟩ := mh_ob hq
    refine st_invV (pc := 9) (ci := 11) (vs := [.int (1 : Int32)]) (rest := []) (st2 := [.int q2.1]) dX11_share_9 okX11_error (by decide) hkq2 hbq2 wd_326 wd_328 wp_0 pdX11_error rfl rfl rfl rfl (Nat.le_trans (by decide) hd) (Nat.le_of_ble_eq_true rfl) (T_X11_error (Nat.le_refl _) e2) rfl ?_
    exact bd_iret (pc := 12) hq dX11_share_12 rfl
  ·
    refine st_aload_n (pc := 13) dX11_share_13 rfl ?_
    refine bd_getr (pc := 14) hq dX11_share_14 fl_11_12_11 rfl (fun v2 hq => ?_)
    refine bd_getr (pc := 17) hq dX11_share_17 fl_11_90_10 rfl (fun v3 hq => ?_)
    refine bd_getr (pc := 20) hq dX11_share_20 fl_11_217_8 rfl (fun v4 hq => ?_)
    refine st_iload_n (pc := 23) dX11_share_23 rfl ?_
    refine st_bipush (pc := 24) (v := (7 : Int32)) dX11_share_24 (by decide) ?_
    refine st_imul (pc := 26) dX11_share_26 ?_
    refine st_iconst (pc := 27) (v := (0 : Int32)) dX11_share_27 rfl ?_
    refine st_iadd (pc := 28) dX11_share_28 ?_
    refine bd_iald (pc := 29) hq dX11_share_29 (fun v5 hq => ?_)
    refine st_aload_n (pc := 30) dX11_share_30 rfl ?_
    refine bd_getr (pc := 31) hq dX11_share_31 fl_11_12_11 rfl (fun v6 hq => ?_)
    refine bd_getr (pc := 34) hq dX11_share_34 fl_11_196_10 rfl (fun v7 hq => ?_)
    refine st_iload_n (pc := 37) dX11_share_37 rfl ?_
    obtain ⟨⟨hbq8, hkq8⟩, hq⟩ := mh_oi hq
    obtain ⟨q8, e8, hq⟩ := mh_ob hq
    refine st_invV (pc := 38) (ci := 1) (vs := [.int l1]) (rest := [.int v5]) (st2 := [.int q8.1, .int v5]) dX11_share_38 okX1_seenInBottles (by decide) hkq8 hbq8 wd_1000 wd_1001 wd_1002 pdX1_seenInBottles rfl rfl rfl rfl (Nat.le_trans (by decide) hd) (Nat.le_of_ble_eq_true rfl) (T_X1_seenInBottles (Nat.le_refl _) e8) rfl ?_
    refine st_isub (pc := 41) dX11_share_41 ?_
    exact bd_iret (pc := 42) hq dX11_share_42 rfl
-- HoleWater$Way.runs(ILHoleWater$Row;)I
theorem dX9_runs_0 : decode cX9_runs 0 = .ok (.aload_n 2, 1) := by decide +kernel
theorem dX9_runs_1 : decode cX9_runs 1 = .ok (.bipush 10, 2) := by decide +kernel
theorem dX9_runs_3 : decode cX9_runs 3 = .ok (.invokevirtual 22, 3) := by decide +kernel
theorem dX9_runs_6 : decode cX9_runs 6 = .ok (.pop, 1) := by decide +kernel
theorem dX9_runs_7 : decode cX9_runs 7 = .ok (.iload_n 1, 1) := by decide +kernel
theorem dX9_runs_8 : decode cX9_runs 8 = .ok (.aload_n 0, 1) := by decide +kernel
theorem dX9_runs_9 : decode cX9_runs 9 = .ok (.getfield 16, 3) := by decide +kernel
theorem dX9_runs_12 : decode cX9_runs 12 = .ok (.iadd, 1) := by decide +kernel
theorem dX9_runs_13 : decode cX9_runs 13 = .ok (.ireturn, 1) := by decide +kernel
def D_X9_runs (N : Nat) (h : mh_H) (l0 : Nat) (l1 : Int32) (l2 : Nat) : Option (Int32 × mh_H) :=
  kO h 6 l2 <|
  (D_X6_add N h l2 (10 : Int32)).bind fun q1 =>
  (gW q1.2 l0 2).bind fun v2 =>
  some (l1 + v2, q1.2)
set_option maxHeartbeats 4000000 in
set_option maxRecDepth 100000 in
theorem T_X9_runs {P : mh_E → Prop} {N d : Nat} (hd : 2 ≤ d) {z : (Int32 × mh_H)} {h : mh_H} {l0 : Nat} {l1 : Int32} {l2 : Nat} (hq : D_X9_runs N h l0 l1 l2 = some z) : mh_go P d mX9_runs 0 [some (.ref l0), some (.int l1), some (.ref l2)] [] h (some (.int z.1)) z.2 := by
  unfold D_X9_runs at hq
  refine st_aload_n (pc := 0) dX9_runs_0 rfl ?_
  refine st_bipush (pc := 1) (v := (10 : Int32)) dX9_runs_1 (by decide) ?_
  obtain ⟨⟨hbq1, hkq1⟩, hq⟩ := mh_oi hq
  obtain ⟨q1, e1, hq⟩ := mh_ob hq
  refine st_invV (pc := 3) (ci := 6) (vs := [.int (10 : Int32)]) (rest := []) (st2 := [.int q1.1]) dX9_runs_3 okX6_add (by decide) hkq1 hbq1 wd_1034 wd_688 wd_689 pdX6_add rfl rfl rfl rfl (Nat.le_trans (by decide) hd) (Nat.le_of_ble_eq_true rfl) (T_X6_add (Nat.le_refl _) e1) rfl ?_
  refine st_pop (pc := 6) dX9_runs_6 rfl ?_
  refine st_iload_n (pc := 7) dX9_runs_7 rfl ?_
  refine st_aload_n (pc := 8) dX9_runs_8 rfl ?_
  refine bd_getw (pc := 9) hq dX9_runs_9 flw_9_16 (by decide) (fun v2 hq => ?_)
  refine st_iadd (pc := 12) dX9_runs_12 ?_
  exact bd_iret (pc := 13) hq dX9_runs_13 rfl
-- HoleWater$Way.tells(ILHoleWater$Row;)I
theorem dX9_tells_0 : decode cX9_tells 0 = .ok (.aload_n 2, 1) := by decide +kernel
theorem dX9_tells_1 : decode cX9_tells 1 = .ok (.bipush 13, 2) := by decide +kernel
theorem dX9_tells_3 : decode cX9_tells 3 = .ok (.invokevirtual 22, 3) := by decide +kernel
theorem dX9_tells_6 : decode cX9_tells 6 = .ok (.pop, 1) := by decide +kernel
theorem dX9_tells_7 : decode cX9_tells 7 = .ok (.iload_n 1, 1) := by decide +kernel
theorem dX9_tells_8 : decode cX9_tells 8 = .ok (.aload_n 0, 1) := by decide +kernel
theorem dX9_tells_9 : decode cX9_tells 9 = .ok (.getfield 19, 3) := by decide +kernel
theorem dX9_tells_12 : decode cX9_tells 12 = .ok (.aload_n 0, 1) := by decide +kernel
theorem dX9_tells_13 : decode cX9_tells 13 = .ok (.getfield 16, 3) := by decide +kernel
theorem dX9_tells_16 : decode cX9_tells 16 = .ok (.isub, 1) := by decide +kernel
theorem dX9_tells_17 : decode cX9_tells 17 = .ok (.invokestatic 35, 3) := by decide +kernel
theorem dX9_tells_20 : decode cX9_tells 20 = .ok (.ireturn, 1) := by decide +kernel
def D_X9_tells (N : Nat) (h : mh_H) (l0 : Nat) (l1 : Int32) (l2 : Nat) : Option (Int32 × mh_H) :=
  kO h 6 l2 <|
  (D_X6_add N h l2 (13 : Int32)).bind fun q1 =>
  (gW q1.2 l0 3).bind fun v2 =>
  (gW q1.2 l0 2).bind fun v3 =>
  (D_X11_by N q1.2 l1 (v2 - v3)).bind fun q4 =>
  some (q4.1, q4.2)
set_option maxHeartbeats 4000000 in
set_option maxRecDepth 100000 in
theorem T_X9_tells {P : mh_E → Prop} {N d : Nat} (hd : 2 ≤ d) {z : (Int32 × mh_H)} {h : mh_H} {l0 : Nat} {l1 : Int32} {l2 : Nat} (hq : D_X9_tells N h l0 l1 l2 = some z) : mh_go P d mX9_tells 0 [some (.ref l0), some (.int l1), some (.ref l2)] [] h (some (.int z.1)) z.2 := by
  unfold D_X9_tells at hq
  refine st_aload_n (pc := 0) dX9_tells_0 rfl ?_
  refine st_bipush (pc := 1) (v := (13 : Int32)) dX9_tells_1 (by decide) ?_
  obtain ⟨⟨hbq1, hkq1⟩, hq⟩ := mh_oi hq
  obtain ⟨q1, e1, hq⟩ := mh_ob hq
  refine st_invV (pc := 3) (ci := 6) (vs := [.int (13 : Int32)]) (rest := []) (st2 := [.int q1.1]) dX9_tells_3 okX6_add (by decide) hkq1 hbq1 wd_1034 wd_688 wd_689 pdX6_add rfl rfl rfl rfl (Nat.le_trans (by decide) hd) (Nat.le_of_ble_eq_true rfl) (T_X6_add (Nat.le_refl _) e1) rfl ?_
  refine st_pop (pc := 6) dX9_tells_6 rfl ?_
  refine st_iload_n (pc := 7) dX9_tells_7 rfl ?_
  refine st_aload_n (pc := 8) dX9_tells_8 rfl ?_
  refine bd_getw (pc := 9) hq dX9_tells_9 flw_9_19 (by decide) (fun v2 hq => ?_)
  refine st_aload_n (pc := 12) dX9_tells_12 rfl ?_
  refine bd_getw (pc := 13) hq dX9_tells_13 flw_9_16 (by decide) (fun v3 hq => ?_)
  refine st_isub (pc := 16) dX9_tells_16 ?_
  obtain ⟨q4, e4, hq⟩ := mh_ob hq
  refine st_invSN (pc := 17) (Y := mX11_by) (vs := [.int l1, .int (v2 - v3)]) (rest := []) (st2 := [.int q4.1]) dX9_tells_17 okX11_by wn_1104 wd_539 pdX11_by rfl rfl rfl rfl (Nat.le_trans (by decide) hd) (Nat.le_of_ble_eq_true rfl) (T_X11_by (Nat.le_refl _) e4) rfl ?_
  exact bd_iret (pc := 20) hq dX9_tells_20 rfl
-- HoleWater$Blind.tells(ILHoleWater$Row;)I
theorem dX0_tells_0 : decode cX0_tells 0 = .ok (.aload_n 2, 1) := by decide +kernel
theorem dX0_tells_1 : decode cX0_tells 1 = .ok (.bipush 60, 2) := by decide +kernel
theorem dX0_tells_3 : decode cX0_tells 3 = .ok (.invokevirtual 7, 3) := by decide +kernel
theorem dX0_tells_6 : decode cX0_tells 6 = .ok (.pop, 1) := by decide +kernel
theorem dX0_tells_7 : decode cX0_tells 7 = .ok (.aload_n 0, 1) := by decide +kernel
theorem dX0_tells_8 : decode cX0_tells 8 = .ok (.iload_n 1, 1) := by decide +kernel
theorem dX0_tells_9 : decode cX0_tells 9 = .ok (.aload_n 2, 1) := by decide +kernel
theorem dX0_tells_10 : decode cX0_tells 10 = .ok (.invokevirtual 13, 3) := by decide +kernel
theorem dX0_tells_13 : decode cX0_tells 13 = .ok (.istore_n 3, 1) := by decide +kernel
theorem dX0_tells_14 : decode cX0_tells 14 = .ok (.iload_n 3, 1) := by decide +kernel
theorem dX0_tells_15 : decode cX0_tells 15 = .ok (.aload_n 0, 1) := by decide +kernel
theorem dX0_tells_16 : decode cX0_tells 16 = .ok (.iload_n 1, 1) := by decide +kernel
theorem dX0_tells_17 : decode cX0_tells 17 = .ok (.aload_n 2, 1) := by decide +kernel
theorem dX0_tells_18 : decode cX0_tells 18 = .ok (.invokespecial 19, 3) := by decide +kernel
theorem dX0_tells_21 : decode cX0_tells 21 = .ok (.isub, 1) := by decide +kernel
theorem dX0_tells_22 : decode cX0_tells 22 = .ok (.ireturn, 1) := by decide +kernel
def V_Blind_runs (N : Nat) (h : mh_H) (b : Nat) (a1 : Int32) (a2 : Nat) : Option (Int32 × mh_H) :=
  if b < mh_n h ∧ mh_k h b = 2 then D_X9_runs N h b a1 a2
  else none
set_option maxHeartbeats 4000000 in
set_option maxRecDepth 100000 in
theorem S_X0_tells_10 {P : mh_E → Prop} {N d : Nat} {lv : List (Option Value)} {rest : List Value} {h : mh_H} {b : Nat} {a1 : Int32} {a2 : Nat} {q : (Int32 × mh_H)} {r : Option Value} {h' : mh_H} (hd : 3 ≤ d) (hW : (rest.map fun v => v.category).sum ≤ 8) (e : V_Blind_runs N h b a1 a2 = some q) (k : mh_go P d mX0_tells 13 lv (.int q.1 :: rest) q.2 r h') : mh_go P d mX0_tells 10 lv (.ref a2 :: .int a1 :: .ref b :: rest) h r h' := by
  unfold V_Blind_runs at e
  rcases mh_or e with ⟨⟨hb, hk⟩, e⟩ | ⟨-, e⟩
  · exact st_invU (pc := 10) (ci := 0) (owner := "HoleWater$Way") (x := ⟨"HoleWater$Blind", "runs", "(ILHoleWater$Row;)I"⟩) (vs := [.int a1, .ref a2]) dX0_tells_10 okX9_runs (by decide) hk hb wd_1081 wd_1082 wd_1017 wd_1033 wd_1017 wd_1084 ⟨by decide, by decide⟩ pdX9_runs rfl rfl rfl rfl (Nat.le_trans (by decide) hd) hW (T_X9_runs (Nat.le_refl _) e) rfl k
  cases e
def D_X0_tells (N : Nat) (h : mh_H) (l0 : Nat) (l1 : Int32) (l2 : Nat) : Option (Int32 × mh_H) :=
  kO h 6 l2 <|
  (D_X6_add N h l2 (60 : Int32)).bind fun q1 =>
  (V_Blind_runs N q1.2 l0 l1 l2).bind fun q2 =>
  kW q2.2 l0 <|
  (D_X9_tells N q2.2 l0 l1 l2).bind fun q3 =>
  some (q2.1 - q3.1, q3.2)
set_option maxHeartbeats 4000000 in
set_option maxRecDepth 100000 in
theorem T_X0_tells {P : mh_E → Prop} {N d : Nat} (hd : 3 ≤ d) {z : (Int32 × mh_H)} {h : mh_H} {l0 : Nat} {l1 : Int32} {l2 : Nat} (hq : D_X0_tells N h l0 l1 l2 = some z) : mh_go P d mX0_tells 0 [some (.ref l0), some (.int l1), some (.ref l2), none] [] h (some (.int z.1)) z.2 := by
  unfold D_X0_tells at hq
  refine st_aload_n (pc := 0) dX0_tells_0 rfl ?_
  refine st_bipush (pc := 1) (v := (60 : Int32)) dX0_tells_1 (by decide) ?_
  obtain ⟨⟨hbq1, hkq1⟩, hq⟩ := mh_oi hq
  obtain ⟨q1, e1, hq⟩ := mh_ob hq
  refine st_invV (pc := 3) (ci := 6) (vs := [.int (60 : Int32)]) (rest := []) (st2 := [.int q1.1]) dX0_tells_3 okX6_add (by decide) hkq1 hbq1 wd_1080 wd_688 wd_689 pdX6_add rfl rfl rfl rfl (Nat.le_trans (by decide) hd) (Nat.le_of_ble_eq_true rfl) (T_X6_add (Nat.le_refl _) e1) rfl ?_
  refine st_pop (pc := 6) dX0_tells_6 rfl ?_
  refine st_aload_n (pc := 7) dX0_tells_7 rfl ?_
  refine st_iload_n (pc := 8) dX0_tells_8 rfl ?_
  refine st_aload_n (pc := 9) dX0_tells_9 rfl ?_
  obtain ⟨q2, e2, hq⟩ := mh_ob hq
  refine S_X0_tells_10 (rest := []) hd (Nat.le_of_ble_eq_true rfl) e2 ?_
  refine st_istore_n (pc := 13) (lv' := [some (.ref l0), some (.int l1), some (.ref l2), some (.int q2.1)]) dX0_tells_13 rfl (by decide) rfl ?_
  refine st_iload_n (pc := 14) dX0_tells_14 rfl ?_
  refine st_aload_n (pc := 15) dX0_tells_15 rfl ?_
  refine st_iload_n (pc := 16) dX0_tells_16 rfl ?_
  refine st_aload_n (pc := 17) dX0_tells_17 rfl ?_
  obtain ⟨⟨hbq3, hwq3⟩, hq⟩ := mh_oi hq
  obtain ⟨q3, e3, hq⟩ := mh_ob hq
  obtain ⟨ciq3, hkq3, hcq3, -⟩ := mh_w6 (Pr := fun _ => True) trivial trivial trivial trivial trivial trivial _ hwq3
  refine st_invPU (pc := 18) (x := ⟨"HoleWater$Sieve", "tells", "(ILHoleWater$Row;)I"⟩) (vs := [.int l1, .ref l2]) (rest := [.int q2.1]) (st2 := [.int q3.1, .int q2.1]) dX0_tells_18 okX9_tells hcq3 hkq3 hbq3 wd_1085 wd_1086 rfl wd_417 wd_384 wd_1074 (by decide) pdX9_tells rfl rfl rfl rfl (Nat.le_trans (by decide) hd) (Nat.le_of_ble_eq_true rfl) (T_X9_tells (Nat.le_refl _) e3) rfl ?_
  refine st_isub (pc := 21) dX0_tells_21 ?_
  exact bd_iret (pc := 22) hq dX0_tells_22 rfl
-- HoleWater$Open.runs(ILHoleWater$Row;)I
theorem dX2_runs_0 : decode cX2_runs 0 = .ok (.aload_n 2, 1) := by decide +kernel
theorem dX2_runs_1 : decode cX2_runs 1 = .ok (.bipush 20, 2) := by decide +kernel
theorem dX2_runs_3 : decode cX2_runs 3 = .ok (.invokevirtual 11, 3) := by decide +kernel
theorem dX2_runs_6 : decode cX2_runs 6 = .ok (.pop, 1) := by decide +kernel
theorem dX2_runs_7 : decode cX2_runs 7 = .ok (.aload_n 0, 1) := by decide +kernel
theorem dX2_runs_8 : decode cX2_runs 8 = .ok (.iload_n 1, 1) := by decide +kernel
theorem dX2_runs_9 : decode cX2_runs 9 = .ok (.aload_n 2, 1) := by decide +kernel
theorem dX2_runs_10 : decode cX2_runs 10 = .ok (.invokespecial 17, 3) := by decide +kernel
theorem dX2_runs_13 : decode cX2_runs 13 = .ok (.iconst 1, 1) := by decide +kernel
theorem dX2_runs_14 : decode cX2_runs 14 = .ok (.isub, 1) := by decide +kernel
theorem dX2_runs_15 : decode cX2_runs 15 = .ok (.ireturn, 1) := by decide +kernel
def D_X2_runs (N : Nat) (h : mh_H) (l0 : Nat) (l1 : Int32) (l2 : Nat) : Option (Int32 × mh_H) :=
  kO h 6 l2 <|
  (D_X6_add N h l2 (20 : Int32)).bind fun q1 =>
  kW q1.2 l0 <|
  (D_X9_runs N q1.2 l0 l1 l2).bind fun q2 =>
  some (q2.1 - (1 : Int32), q2.2)
set_option maxHeartbeats 4000000 in
set_option maxRecDepth 100000 in
theorem T_X2_runs {P : mh_E → Prop} {N d : Nat} (hd : 3 ≤ d) {z : (Int32 × mh_H)} {h : mh_H} {l0 : Nat} {l1 : Int32} {l2 : Nat} (hq : D_X2_runs N h l0 l1 l2 = some z) : mh_go P d mX2_runs 0 [some (.ref l0), some (.int l1), some (.ref l2)] [] h (some (.int z.1)) z.2 := by
  unfold D_X2_runs at hq
  refine st_aload_n (pc := 0) dX2_runs_0 rfl ?_
  refine st_bipush (pc := 1) (v := (20 : Int32)) dX2_runs_1 (by decide) ?_
  obtain ⟨⟨hbq1, hkq1⟩, hq⟩ := mh_oi hq
  obtain ⟨q1, e1, hq⟩ := mh_ob hq
  refine st_invV (pc := 3) (ci := 6) (vs := [.int (20 : Int32)]) (rest := []) (st2 := [.int q1.1]) dX2_runs_3 okX6_add (by decide) hkq1 hbq1 wd_1024 wd_688 wd_689 pdX6_add rfl rfl rfl rfl (Nat.le_trans (by decide) hd) (Nat.le_of_ble_eq_true rfl) (T_X6_add (Nat.le_refl _) e1) rfl ?_
  refine st_pop (pc := 6) dX2_runs_6 rfl ?_
  refine st_aload_n (pc := 7) dX2_runs_7 rfl ?_
  refine st_iload_n (pc := 8) dX2_runs_8 rfl ?_
  refine st_aload_n (pc := 9) dX2_runs_9 rfl ?_
  obtain ⟨⟨hbq2, hwq2⟩, hq⟩ := mh_oi hq
  obtain ⟨q2, e2, hq⟩ := mh_ob hq
  obtain ⟨ciq2, hkq2, hcq2, -⟩ := mh_w6 (Pr := fun _ => True) trivial trivial trivial trivial trivial trivial _ hwq2
  refine st_invP (pc := 10) (vs := [.int l1, .ref l2]) (rest := []) (st2 := [.int q2.1]) dX2_runs_10 okX9_runs hcq2 hkq2 hbq2 wd_1025 wd_1019 wd_373 wd_1017 (by decide) pdX9_runs rfl rfl rfl rfl (Nat.le_trans (by decide) hd) (Nat.le_of_ble_eq_true rfl) (T_X9_runs (Nat.le_refl _) e2) rfl ?_
  refine st_iconst (pc := 13) (v := (1 : Int32)) dX2_runs_13 rfl ?_
  refine st_isub (pc := 14) dX2_runs_14 ?_
  exact bd_iret (pc := 15) hq dX2_runs_15 rfl
-- HoleWater$Overflow.runs(ILHoleWater$Row;)I
theorem dX3_runs_0 : decode cX3_runs 0 = .ok (.aload_n 2, 1) := by decide +kernel
theorem dX3_runs_1 : decode cX3_runs 1 = .ok (.bipush 40, 2) := by decide +kernel
theorem dX3_runs_3 : decode cX3_runs 3 = .ok (.invokevirtual 7, 3) := by decide +kernel
theorem dX3_runs_6 : decode cX3_runs 6 = .ok (.pop, 1) := by decide +kernel
theorem dX3_runs_7 : decode cX3_runs 7 = .ok (.aload_n 0, 1) := by decide +kernel
theorem dX3_runs_8 : decode cX3_runs 8 = .ok (.iload_n 1, 1) := by decide +kernel
theorem dX3_runs_9 : decode cX3_runs 9 = .ok (.aload_n 0, 1) := by decide +kernel
theorem dX3_runs_10 : decode cX3_runs 10 = .ok (.getfield 13, 3) := by decide +kernel
theorem dX3_runs_13 : decode cX3_runs 13 = .ok (.iadd, 1) := by decide +kernel
theorem dX3_runs_14 : decode cX3_runs 14 = .ok (.aload_n 2, 1) := by decide +kernel
theorem dX3_runs_15 : decode cX3_runs 15 = .ok (.invokespecial 19, 3) := by decide +kernel
theorem dX3_runs_18 : decode cX3_runs 18 = .ok (.ireturn, 1) := by decide +kernel
def D_X3_runs (N : Nat) (h : mh_H) (l0 : Nat) (l1 : Int32) (l2 : Nat) : Option (Int32 × mh_H) :=
  kO h 6 l2 <|
  (D_X6_add N h l2 (40 : Int32)).bind fun q1 =>
  (gW q1.2 l0 3).bind fun v2 =>
  kW q1.2 l0 <|
  (D_X2_runs N q1.2 l0 (l1 + v2) l2).bind fun q3 =>
  some (q3.1, q3.2)
set_option maxHeartbeats 4000000 in
set_option maxRecDepth 100000 in
theorem T_X3_runs {P : mh_E → Prop} {N d : Nat} (hd : 4 ≤ d) {z : (Int32 × mh_H)} {h : mh_H} {l0 : Nat} {l1 : Int32} {l2 : Nat} (hq : D_X3_runs N h l0 l1 l2 = some z) : mh_go P d mX3_runs 0 [some (.ref l0), some (.int l1), some (.ref l2)] [] h (some (.int z.1)) z.2 := by
  unfold D_X3_runs at hq
  refine st_aload_n (pc := 0) dX3_runs_0 rfl ?_
  refine st_bipush (pc := 1) (v := (40 : Int32)) dX3_runs_1 (by decide) ?_
  obtain ⟨⟨hbq1, hkq1⟩, hq⟩ := mh_oi hq
  obtain ⟨q1, e1, hq⟩ := mh_ob hq
  refine st_invV (pc := 3) (ci := 6) (vs := [.int (40 : Int32)]) (rest := []) (st2 := [.int q1.1]) dX3_runs_3 okX6_add (by decide) hkq1 hbq1 wd_1029 wd_688 wd_689 pdX6_add rfl rfl rfl rfl (Nat.le_trans (by decide) hd) (Nat.le_of_ble_eq_true rfl) (T_X6_add (Nat.le_refl _) e1) rfl ?_
  refine st_pop (pc := 6) dX3_runs_6 rfl ?_
  refine st_aload_n (pc := 7) dX3_runs_7 rfl ?_
  refine st_iload_n (pc := 8) dX3_runs_8 rfl ?_
  refine st_aload_n (pc := 9) dX3_runs_9 rfl ?_
  refine bd_getw (pc := 10) hq dX3_runs_10 flw_3_13 (by decide) (fun v2 hq => ?_)
  refine st_iadd (pc := 13) dX3_runs_13 ?_
  refine st_aload_n (pc := 14) dX3_runs_14 rfl ?_
  obtain ⟨⟨hbq3, hwq3⟩, hq⟩ := mh_oi hq
  obtain ⟨q3, e3, hq⟩ := mh_ob hq
  obtain ⟨ciq3, hkq3, hcq3, -⟩ := mh_w6 (Pr := fun _ => True) trivial trivial trivial trivial trivial trivial _ hwq3
  refine st_invP (pc := 15) (vs := [.int (l1 + v2), .ref l2]) (rest := []) (st2 := [.int q3.1]) dX3_runs_15 okX2_runs hcq3 hkq3 hbq3 wd_1030 wd_1734 wd_395 wd_1022 (by decide) pdX2_runs rfl rfl rfl rfl (Nat.le_trans (by decide) hd) (Nat.le_of_ble_eq_true rfl) (T_X2_runs (Nat.le_refl _) e3) rfl ?_
  exact bd_iret (pc := 18) hq dX3_runs_18 rfl
-- HoleWater$Way.isParted()Z
theorem dX9_isParted_0 : decode cX9_isParted 0 = .ok (.aload_n 0, 1) := by decide +kernel
theorem dX9_isParted_1 : decode cX9_isParted 1 = .ok (.getfield 19, 3) := by decide +kernel
theorem dX9_isParted_4 : decode cX9_isParted 4 = .ok (.aload_n 0, 1) := by decide +kernel
theorem dX9_isParted_5 : decode cX9_isParted 5 = .ok (.getfield 16, 3) := by decide +kernel
theorem dX9_isParted_8 : decode cX9_isParted 8 = .ok (.if_icmp .ne 7, 3) := by decide +kernel
theorem dX9_isParted_11 : decode cX9_isParted 11 = .ok (.iconst 1, 1) := by decide +kernel
theorem dX9_isParted_12 : decode cX9_isParted 12 = .ok (.goto 4, 3) := by decide +kernel
theorem dX9_isParted_16 : decode cX9_isParted 16 = .ok (.ireturn, 1) := by decide +kernel
theorem dX9_isParted_15 : decode cX9_isParted 15 = .ok (.iconst 0, 1) := by decide +kernel
def D_X9_isParted (N : Nat) (h : mh_H) (l0 : Nat) : Option (Int32 × mh_H) :=
  (gW h l0 3).bind fun v1 =>
  (gW h l0 2).bind fun v2 =>
  if v1 = v2 then (zB (1 : Int32) h)
  else (zB (0 : Int32) h)
set_option maxHeartbeats 4000000 in
set_option maxRecDepth 100000 in
theorem T_X9_isParted {P : mh_E → Prop} {N d : Nat} (hd : 1 ≤ d) {z : (Int32 × mh_H)} {h : mh_H} {l0 : Nat} (hq : D_X9_isParted N h l0 = some z) : mh_go P d mX9_isParted 0 [some (.ref l0)] [] h (some (.int z.1)) z.2 := by
  unfold D_X9_isParted at hq
  refine st_aload_n (pc := 0) dX9_isParted_0 rfl ?_
  refine bd_getw (pc := 1) hq dX9_isParted_1 flw_9_19 (by decide) (fun v1 hq => ?_)
  refine st_aload_n (pc := 4) dX9_isParted_4 rfl ?_
  refine bd_getw (pc := 5) hq dX9_isParted_5 flw_9_16 (by decide) (fun v2 hq => ?_)
  refine bd_icmp_ne (pc := 8) (tgt := 15) hq dX9_isParted_8 (by decide) (fun _ hq => ?_) (fun _ hq => ?_)
  ·
    refine st_iconst (pc := 11) (v := (1 : Int32)) dX9_isParted_11 rfl ?_
    refine st_goto (pc := 12) (tgt := 16) dX9_isParted_12 (by decide) ?_
    exact bd_zret (pc := 16) hq dX9_isParted_16 rfl
  ·
    refine st_iconst (pc := 15) (v := (0 : Int32)) dX9_isParted_15 rfl ?_
    exact bd_zret (pc := 16) hq dX9_isParted_16 rfl
-- HoleWater$Open.tells(ILHoleWater$Row;)I
theorem dX2_tells_0 : decode cX2_tells 0 = .ok (.aload_n 2, 1) := by decide +kernel
theorem dX2_tells_1 : decode cX2_tells 1 = .ok (.bipush 21, 2) := by decide +kernel
theorem dX2_tells_3 : decode cX2_tells 3 = .ok (.invokevirtual 11, 3) := by decide +kernel
theorem dX2_tells_6 : decode cX2_tells 6 = .ok (.pop, 1) := by decide +kernel
theorem dX2_tells_7 : decode cX2_tells 7 = .ok (.aload_n 0, 1) := by decide +kernel
theorem dX2_tells_8 : decode cX2_tells 8 = .ok (.iload_n 1, 1) := by decide +kernel
theorem dX2_tells_9 : decode cX2_tells 9 = .ok (.aload_n 2, 1) := by decide +kernel
theorem dX2_tells_10 : decode cX2_tells 10 = .ok (.invokespecial 21, 3) := by decide +kernel
theorem dX2_tells_13 : decode cX2_tells 13 = .ok (.istore_n 3, 1) := by decide +kernel
theorem dX2_tells_14 : decode cX2_tells 14 = .ok (.aload_n 0, 1) := by decide +kernel
theorem dX2_tells_15 : decode cX2_tells 15 = .ok (.invokevirtual 24, 3) := by decide +kernel
theorem dX2_tells_18 : decode cX2_tells 18 = .ok (.ifCond .eq 7, 3) := by decide +kernel
theorem dX2_tells_25 : decode cX2_tells 25 = .ok (.iload_n 3, 1) := by decide +kernel
theorem dX2_tells_26 : decode cX2_tells 26 = .ok (.aload_n 0, 1) := by decide +kernel
theorem dX2_tells_27 : decode cX2_tells 27 = .ok (.iconst 1, 1) := by decide +kernel
theorem dX2_tells_28 : decode cX2_tells 28 = .ok (.aload_n 2, 1) := by decide +kernel
theorem dX2_tells_29 : decode cX2_tells 29 = .ok (.invokevirtual 30, 3) := by decide +kernel
theorem dX2_tells_32 : decode cX2_tells 32 = .ok (.iadd, 1) := by decide +kernel
theorem dX2_tells_33 : decode cX2_tells 33 = .ok (.ireturn, 1) := by decide +kernel
theorem dX2_tells_21 : decode cX2_tells 21 = .ok (.iconst 0, 1) := by decide +kernel
theorem dX2_tells_22 : decode cX2_tells 22 = .ok (.goto 11, 3) := by decide +kernel
def V_Open_isParted (N : Nat) (h : mh_H) (b : Nat) : Option (Int32 × mh_H) :=
  if b < mh_n h ∧ mh_k h b = 4 then D_X9_isParted N h b
  else if b < mh_n h ∧ mh_k h b = 5 then D_X9_isParted N h b
  else none
set_option maxHeartbeats 4000000 in
set_option maxRecDepth 100000 in
theorem S_X2_tells_15 {P : mh_E → Prop} {N d : Nat} {lv : List (Option Value)} {rest : List Value} {h : mh_H} {b : Nat} {q : (Int32 × mh_H)} {r : Option Value} {h' : mh_H} (hd : 5 ≤ d) (hW : (rest.map fun v => v.category).sum ≤ 8) (e : V_Open_isParted N h b = some q) (k : mh_go P d mX2_tells 18 lv (.int q.1 :: rest) q.2 r h') : mh_go P d mX2_tells 15 lv (.ref b :: rest) h r h' := by
  unfold V_Open_isParted at e
  rcases mh_or e with ⟨⟨hb, hk⟩, e⟩ | ⟨-, e⟩
  · exact st_invU (pc := 15) (ci := 2) (owner := "HoleWater$Way") (x := ⟨"HoleWater$Open", "isParted", "()Z"⟩) (vs := []) dX2_tells_15 okX9_isParted (by decide) hk hb wd_1092 wd_1093 wd_1097 wd_1098 wd_1097 wd_1095 ⟨by decide, by decide⟩ pdX9_isParted rfl rfl rfl rfl (Nat.le_trans (by decide) hd) hW (T_X9_isParted (Nat.le_refl _) e) rfl k
  rcases mh_or e with ⟨⟨hb, hk⟩, e⟩ | ⟨-, e⟩
  · exact st_invU (pc := 15) (ci := 3) (owner := "HoleWater$Way") (x := ⟨"HoleWater$Open", "isParted", "()Z"⟩) (vs := []) dX2_tells_15 okX9_isParted (by decide) hk hb wd_1092 wd_1093 wd_1097 wd_1098 wd_1097 wd_1096 ⟨by decide, by decide⟩ pdX9_isParted rfl rfl rfl rfl (Nat.le_trans (by decide) hd) hW (T_X9_isParted (Nat.le_refl _) e) rfl k
  cases e
def V_Open_runs (N : Nat) (h : mh_H) (b : Nat) (a1 : Int32) (a2 : Nat) : Option (Int32 × mh_H) :=
  if b < mh_n h ∧ mh_k h b = 4 then D_X2_runs N h b a1 a2
  else if b < mh_n h ∧ mh_k h b = 5 then D_X3_runs N h b a1 a2
  else none
set_option maxHeartbeats 4000000 in
set_option maxRecDepth 100000 in
theorem S_X2_tells_29 {P : mh_E → Prop} {N d : Nat} {lv : List (Option Value)} {rest : List Value} {h : mh_H} {b : Nat} {a1 : Int32} {a2 : Nat} {q : (Int32 × mh_H)} {r : Option Value} {h' : mh_H} (hd : 5 ≤ d) (hW : (rest.map fun v => v.category).sum ≤ 8) (e : V_Open_runs N h b a1 a2 = some q) (k : mh_go P d mX2_tells 32 lv (.int q.1 :: rest) q.2 r h') : mh_go P d mX2_tells 29 lv (.ref a2 :: .int a1 :: .ref b :: rest) h r h' := by
  unfold V_Open_runs at e
  rcases mh_or e with ⟨⟨hb, hk⟩, e⟩ | ⟨-, e⟩
  · exact st_invV (pc := 29) (ci := 2) (vs := [.int a1, .ref a2]) dX2_tells_29 okX2_runs (by decide) hk hb wd_1099 wd_1022 wd_1735 pdX2_runs rfl rfl rfl rfl (Nat.le_trans (by decide) hd) hW (T_X2_runs (Nat.le_refl _) e) rfl k
  rcases mh_or e with ⟨⟨hb, hk⟩, e⟩ | ⟨-, e⟩
  · exact st_invU (pc := 29) (ci := 3) (owner := "HoleWater$Open") (x := ⟨"HoleWater$Open", "runs", "(ILHoleWater$Row;)I"⟩) (vs := [.int a1, .ref a2]) dX2_tells_29 okX3_runs (by decide) hk hb wd_1099 wd_1734 wd_1022 wd_1023 wd_1027 wd_1736 ⟨by decide, by decide⟩ pdX3_runs rfl rfl rfl rfl (Nat.le_trans (by decide) hd) hW (T_X3_runs (Nat.le_refl _) e) rfl k
  cases e
def D_X2_tells (N : Nat) (h : mh_H) (l0 : Nat) (l1 : Int32) (l2 : Nat) : Option (Int32 × mh_H) :=
  kO h 6 l2 <|
  (D_X6_add N h l2 (21 : Int32)).bind fun q1 =>
  kW q1.2 l0 <|
  (D_X9_tells N q1.2 l0 l1 l2).bind fun q2 =>
  (V_Open_isParted N q2.2 l0).bind fun q3 =>
  if q3.1 = 0 then ((V_Open_runs N q3.2 l0 (1 : Int32) l2).bind fun q4 =>
  some (q2.1 + q4.1, q4.2))
  else (some ((0 : Int32), q3.2))
set_option maxHeartbeats 4000000 in
set_option maxRecDepth 100000 in
theorem T_X2_tells {P : mh_E → Prop} {N d : Nat} (hd : 5 ≤ d) {z : (Int32 × mh_H)} {h : mh_H} {l0 : Nat} {l1 : Int32} {l2 : Nat} (hq : D_X2_tells N h l0 l1 l2 = some z) : mh_go P d mX2_tells 0 [some (.ref l0), some (.int l1), some (.ref l2), none] [] h (some (.int z.1)) z.2 := by
  unfold D_X2_tells at hq
  refine st_aload_n (pc := 0) dX2_tells_0 rfl ?_
  refine st_bipush (pc := 1) (v := (21 : Int32)) dX2_tells_1 (by decide) ?_
  obtain ⟨⟨hbq1, hkq1⟩, hq⟩ := mh_oi hq
  obtain ⟨q1, e1, hq⟩ := mh_ob hq
  refine st_invV (pc := 3) (ci := 6) (vs := [.int (21 : Int32)]) (rest := []) (st2 := [.int q1.1]) dX2_tells_3 okX6_add (by decide) hkq1 hbq1 wd_1024 wd_688 wd_689 pdX6_add rfl rfl rfl rfl (Nat.le_trans (by decide) hd) (Nat.le_of_ble_eq_true rfl) (T_X6_add (Nat.le_refl _) e1) rfl ?_
  refine st_pop (pc := 6) dX2_tells_6 rfl ?_
  refine st_aload_n (pc := 7) dX2_tells_7 rfl ?_
  refine st_iload_n (pc := 8) dX2_tells_8 rfl ?_
  refine st_aload_n (pc := 9) dX2_tells_9 rfl ?_
  obtain ⟨⟨hbq2, hwq2⟩, hq⟩ := mh_oi hq
  obtain ⟨q2, e2, hq⟩ := mh_ob hq
  obtain ⟨ciq2, hkq2, hcq2, -⟩ := mh_w6 (Pr := fun _ => True) trivial trivial trivial trivial trivial trivial _ hwq2
  refine st_invP (pc := 10) (vs := [.int l1, .ref l2]) (rest := []) (st2 := [.int q2.1]) dX2_tells_10 okX9_tells hcq2 hkq2 hbq2 wd_1091 wd_1076 wd_373 wd_1074 (by decide) pdX9_tells rfl rfl rfl rfl (Nat.le_trans (by decide) hd) (Nat.le_of_ble_eq_true rfl) (T_X9_tells (Nat.le_refl _) e2) rfl ?_
  refine st_istore_n (pc := 13) (lv' := [some (.ref l0), some (.int l1), some (.ref l2), some (.int q2.1)]) dX2_tells_13 rfl (by decide) rfl ?_
  refine st_aload_n (pc := 14) dX2_tells_14 rfl ?_
  obtain ⟨q3, e3, hq⟩ := mh_ob hq
  refine S_X2_tells_15 (rest := []) hd (Nat.le_of_ble_eq_true rfl) e3 ?_
  refine bd_if_eq (pc := 18) (tgt := 25) hq dX2_tells_18 (by decide) (fun _ hq => ?_) (fun _ hq => ?_)
  ·
    refine st_iload_n (pc := 25) dX2_tells_25 rfl ?_
    refine st_aload_n (pc := 26) dX2_tells_26 rfl ?_
    refine st_iconst (pc := 27) (v := (1 : Int32)) dX2_tells_27 rfl ?_
    refine st_aload_n (pc := 28) dX2_tells_28 rfl ?_
    obtain ⟨q4, e4, hq⟩ := mh_ob hq
    refine S_X2_tells_29 (rest := [.int q2.1]) hd (Nat.le_of_ble_eq_true rfl) e4 ?_
    refine st_iadd (pc := 32) dX2_tells_32 ?_
    exact bd_iret (pc := 33) hq dX2_tells_33 rfl
  ·
    refine st_iconst (pc := 21) (v := (0 : Int32)) dX2_tells_21 rfl ?_
    refine st_goto (pc := 22) (tgt := 33) dX2_tells_22 (by decide) ?_
    exact bd_iret (pc := 33) hq dX2_tells_33 rfl
-- HoleWater$Way.holds(ILHoleWater$Row;)I
theorem dX9_holds_0 : decode cX9_holds 0 = .ok (.aload_n 2, 1) := by decide +kernel
theorem dX9_holds_1 : decode cX9_holds 1 = .ok (.bipush 11, 2) := by decide +kernel
theorem dX9_holds_3 : decode cX9_holds 3 = .ok (.invokevirtual 22, 3) := by decide +kernel
theorem dX9_holds_6 : decode cX9_holds 6 = .ok (.pop, 1) := by decide +kernel
theorem dX9_holds_7 : decode cX9_holds 7 = .ok (.aload_n 0, 1) := by decide +kernel
theorem dX9_holds_8 : decode cX9_holds 8 = .ok (.iload_n 1, 1) := by decide +kernel
theorem dX9_holds_9 : decode cX9_holds 9 = .ok (.aload_n 2, 1) := by decide +kernel
theorem dX9_holds_10 : decode cX9_holds 10 = .ok (.invokevirtual 28, 3) := by decide +kernel
theorem dX9_holds_13 : decode cX9_holds 13 = .ok (.iconst 2, 1) := by decide +kernel
theorem dX9_holds_14 : decode cX9_holds 14 = .ok (.imul, 1) := by decide +kernel
theorem dX9_holds_15 : decode cX9_holds 15 = .ok (.ireturn, 1) := by decide +kernel
def V_Way_runs (N : Nat) (h : mh_H) (b : Nat) (a1 : Int32) (a2 : Nat) : Option (Int32 × mh_H) :=
  if b < mh_n h ∧ mh_k h b = 11 then D_X9_runs N h b a1 a2
  else if b < mh_n h ∧ mh_k h b = 2 then D_X9_runs N h b a1 a2
  else if b < mh_n h ∧ mh_k h b = 4 then D_X2_runs N h b a1 a2
  else if b < mh_n h ∧ mh_k h b = 5 then D_X3_runs N h b a1 a2
  else if b < mh_n h ∧ mh_k h b = 6 then D_X9_runs N h b a1 a2
  else if b < mh_n h ∧ mh_k h b = 9 then D_X9_runs N h b a1 a2
  else none
set_option maxHeartbeats 4000000 in
set_option maxRecDepth 100000 in
theorem S_X9_holds_10 {P : mh_E → Prop} {N d : Nat} {lv : List (Option Value)} {rest : List Value} {h : mh_H} {b : Nat} {a1 : Int32} {a2 : Nat} {q : (Int32 × mh_H)} {r : Option Value} {h' : mh_H} (hd : 5 ≤ d) (hW : (rest.map fun v => v.category).sum ≤ 8) (e : V_Way_runs N h b a1 a2 = some q) (k : mh_go P d mX9_holds 13 lv (.int q.1 :: rest) q.2 r h') : mh_go P d mX9_holds 10 lv (.ref a2 :: .int a1 :: .ref b :: rest) h r h' := by
  unfold V_Way_runs at e
  rcases mh_or e with ⟨⟨hb, hk⟩, e⟩ | ⟨-, e⟩
  · exact st_invV (pc := 10) (ci := 9) (vs := [.int a1, .ref a2]) dX9_holds_10 okX9_runs (by decide) hk hb wd_1053 wd_1017 wd_1018 pdX9_runs rfl rfl rfl rfl (Nat.le_trans (by decide) hd) hW (T_X9_runs (Nat.le_refl _) e) rfl k
  rcases mh_or e with ⟨⟨hb, hk⟩, e⟩ | ⟨-, e⟩
  · exact st_invV (pc := 10) (ci := 0) (vs := [.int a1, .ref a2]) dX9_holds_10 okX9_runs (by decide) hk hb wd_1053 wd_1017 wd_1020 pdX9_runs rfl rfl rfl rfl (Nat.le_trans (by decide) hd) hW (T_X9_runs (Nat.le_refl _) e) rfl k
  rcases mh_or e with ⟨⟨hb, hk⟩, e⟩ | ⟨-, e⟩
  · exact st_invU (pc := 10) (ci := 2) (owner := "HoleWater$Way") (x := ⟨"HoleWater$Way", "runs", "(ILHoleWater$Row;)I"⟩) (vs := [.int a1, .ref a2]) dX9_holds_10 okX2_runs (by decide) hk hb wd_1053 wd_1019 wd_1017 wd_1033 wd_1022 wd_1021 ⟨by decide, by decide⟩ pdX2_runs rfl rfl rfl rfl (Nat.le_trans (by decide) hd) hW (T_X2_runs (Nat.le_refl _) e) rfl k
  rcases mh_or e with ⟨⟨hb, hk⟩, e⟩ | ⟨-, e⟩
  · exact st_invU (pc := 10) (ci := 3) (owner := "HoleWater$Way") (x := ⟨"HoleWater$Way", "runs", "(ILHoleWater$Row;)I"⟩) (vs := [.int a1, .ref a2]) dX9_holds_10 okX3_runs (by decide) hk hb wd_1053 wd_1019 wd_1017 wd_1033 wd_1027 wd_1026 ⟨by decide, by decide⟩ pdX3_runs rfl rfl rfl rfl (Nat.le_trans (by decide) hd) hW (T_X3_runs (Nat.le_refl _) e) rfl k
  rcases mh_or e with ⟨⟨hb, hk⟩, e⟩ | ⟨-, e⟩
  · exact st_invV (pc := 10) (ci := 4) (vs := [.int a1, .ref a2]) dX9_holds_10 okX9_runs (by decide) hk hb wd_1053 wd_1017 wd_1031 pdX9_runs rfl rfl rfl rfl (Nat.le_trans (by decide) hd) hW (T_X9_runs (Nat.le_refl _) e) rfl k
  rcases mh_or e with ⟨⟨hb, hk⟩, e⟩ | ⟨-, e⟩
  · exact st_invV (pc := 10) (ci := 7) (vs := [.int a1, .ref a2]) dX9_holds_10 okX9_runs (by decide) hk hb wd_1053 wd_1017 wd_1032 pdX9_runs rfl rfl rfl rfl (Nat.le_trans (by decide) hd) hW (T_X9_runs (Nat.le_refl _) e) rfl k
  cases e
def D_X9_holds (N : Nat) (h : mh_H) (l0 : Nat) (l1 : Int32) (l2 : Nat) : Option (Int32 × mh_H) :=
  kO h 6 l2 <|
  (D_X6_add N h l2 (11 : Int32)).bind fun q1 =>
  (V_Way_runs N q1.2 l0 l1 l2).bind fun q2 =>
  some (q2.1 * (2 : Int32), q2.2)
set_option maxHeartbeats 4000000 in
set_option maxRecDepth 100000 in
theorem T_X9_holds {P : mh_E → Prop} {N d : Nat} (hd : 5 ≤ d) {z : (Int32 × mh_H)} {h : mh_H} {l0 : Nat} {l1 : Int32} {l2 : Nat} (hq : D_X9_holds N h l0 l1 l2 = some z) : mh_go P d mX9_holds 0 [some (.ref l0), some (.int l1), some (.ref l2)] [] h (some (.int z.1)) z.2 := by
  unfold D_X9_holds at hq
  refine st_aload_n (pc := 0) dX9_holds_0 rfl ?_
  refine st_bipush (pc := 1) (v := (11 : Int32)) dX9_holds_1 (by decide) ?_
  obtain ⟨⟨hbq1, hkq1⟩, hq⟩ := mh_oi hq
  obtain ⟨q1, e1, hq⟩ := mh_ob hq
  refine st_invV (pc := 3) (ci := 6) (vs := [.int (11 : Int32)]) (rest := []) (st2 := [.int q1.1]) dX9_holds_3 okX6_add (by decide) hkq1 hbq1 wd_1034 wd_688 wd_689 pdX6_add rfl rfl rfl rfl (Nat.le_trans (by decide) hd) (Nat.le_of_ble_eq_true rfl) (T_X6_add (Nat.le_refl _) e1) rfl ?_
  refine st_pop (pc := 6) dX9_holds_6 rfl ?_
  refine st_aload_n (pc := 7) dX9_holds_7 rfl ?_
  refine st_iload_n (pc := 8) dX9_holds_8 rfl ?_
  refine st_aload_n (pc := 9) dX9_holds_9 rfl ?_
  obtain ⟨q2, e2, hq⟩ := mh_ob hq
  refine S_X9_holds_10 (rest := []) hd (Nat.le_of_ble_eq_true rfl) e2 ?_
  refine st_iconst (pc := 13) (v := (2 : Int32)) dX9_holds_13 rfl ?_
  refine st_imul (pc := 14) dX9_holds_14 ?_
  exact bd_iret (pc := 15) hq dX9_holds_15 rfl
-- HoleWater$Pool.holds(ILHoleWater$Row;)I
theorem dX4_holds_0 : decode cX4_holds 0 = .ok (.aload_n 2, 1) := by decide +kernel
theorem dX4_holds_1 : decode cX4_holds 1 = .ok (.bipush 50, 2) := by decide +kernel
theorem dX4_holds_3 : decode cX4_holds 3 = .ok (.invokevirtual 19, 3) := by decide +kernel
theorem dX4_holds_6 : decode cX4_holds 6 = .ok (.pop, 1) := by decide +kernel
theorem dX4_holds_7 : decode cX4_holds 7 = .ok (.aload_n 0, 1) := by decide +kernel
theorem dX4_holds_8 : decode cX4_holds 8 = .ok (.iload_n 1, 1) := by decide +kernel
theorem dX4_holds_9 : decode cX4_holds 9 = .ok (.aload_n 2, 1) := by decide +kernel
theorem dX4_holds_10 : decode cX4_holds 10 = .ok (.invokespecial 25, 3) := by decide +kernel
theorem dX4_holds_13 : decode cX4_holds 13 = .ok (.aload_n 0, 1) := by decide +kernel
theorem dX4_holds_14 : decode cX4_holds 14 = .ok (.getfield 7, 3) := by decide +kernel
theorem dX4_holds_17 : decode cX4_holds 17 = .ok (.iadd, 1) := by decide +kernel
theorem dX4_holds_18 : decode cX4_holds 18 = .ok (.ireturn, 1) := by decide +kernel
def D_X4_holds (N : Nat) (h : mh_H) (l0 : Nat) (l1 : Int32) (l2 : Nat) : Option (Int32 × mh_H) :=
  kO h 6 l2 <|
  (D_X6_add N h l2 (50 : Int32)).bind fun q1 =>
  kW q1.2 l0 <|
  (D_X9_holds N q1.2 l0 l1 l2).bind fun q2 =>
  (gW q2.2 l0 3).bind fun v3 =>
  some (q2.1 + v3, q2.2)
set_option maxHeartbeats 4000000 in
set_option maxRecDepth 100000 in
theorem T_X4_holds {P : mh_E → Prop} {N d : Nat} (hd : 6 ≤ d) {z : (Int32 × mh_H)} {h : mh_H} {l0 : Nat} {l1 : Int32} {l2 : Nat} (hq : D_X4_holds N h l0 l1 l2 = some z) : mh_go P d mX4_holds 0 [some (.ref l0), some (.int l1), some (.ref l2)] [] h (some (.int z.1)) z.2 := by
  unfold D_X4_holds at hq
  refine st_aload_n (pc := 0) dX4_holds_0 rfl ?_
  refine st_bipush (pc := 1) (v := (50 : Int32)) dX4_holds_1 (by decide) ?_
  obtain ⟨⟨hbq1, hkq1⟩, hq⟩ := mh_oi hq
  obtain ⟨q1, e1, hq⟩ := mh_ob hq
  refine st_invV (pc := 3) (ci := 6) (vs := [.int (50 : Int32)]) (rest := []) (st2 := [.int q1.1]) dX4_holds_3 okX6_add (by decide) hkq1 hbq1 wd_1049 wd_688 wd_689 pdX6_add rfl rfl rfl rfl (Nat.le_trans (by decide) hd) (Nat.le_of_ble_eq_true rfl) (T_X6_add (Nat.le_refl _) e1) rfl ?_
  refine st_pop (pc := 6) dX4_holds_6 rfl ?_
  refine st_aload_n (pc := 7) dX4_holds_7 rfl ?_
  refine st_iload_n (pc := 8) dX4_holds_8 rfl ?_
  refine st_aload_n (pc := 9) dX4_holds_9 rfl ?_
  obtain ⟨⟨hbq2, hwq2⟩, hq⟩ := mh_oi hq
  obtain ⟨q2, e2, hq⟩ := mh_ob hq
  obtain ⟨ciq2, hkq2, hcq2, -⟩ := mh_w6 (Pr := fun _ => True) trivial trivial trivial trivial trivial trivial _ hwq2
  refine st_invP (pc := 10) (vs := [.int l1, .ref l2]) (rest := []) (st2 := [.int q2.1]) dX4_holds_10 okX9_holds hcq2 hkq2 hbq2 wd_1050 wd_1038 wd_406 wd_1036 (by decide) pdX9_holds rfl rfl rfl rfl (Nat.le_trans (by decide) hd) (Nat.le_of_ble_eq_true rfl) (T_X9_holds (Nat.le_refl _) e2) rfl ?_
  refine st_aload_n (pc := 13) dX4_holds_13 rfl ?_
  refine bd_getw (pc := 14) hq dX4_holds_14 flw_4_7 (by decide) (fun v3 hq => ?_)
  refine st_iadd (pc := 17) dX4_holds_17 ?_
  exact bd_iret (pc := 18) hq dX4_holds_18 rfl
-- HoleWater$Sieve.holds(ILHoleWater$Row;)I
theorem dX7_holds_0 : decode cX7_holds 0 = .ok (.aload_n 2, 1) := by decide +kernel
theorem dX7_holds_1 : decode cX7_holds 1 = .ok (.bipush 30, 2) := by decide +kernel
theorem dX7_holds_3 : decode cX7_holds 3 = .ok (.invokevirtual 23, 3) := by decide +kernel
theorem dX7_holds_6 : decode cX7_holds 6 = .ok (.pop, 1) := by decide +kernel
theorem dX7_holds_7 : decode cX7_holds 7 = .ok (.aload_n 0, 1) := by decide +kernel
theorem dX7_holds_8 : decode cX7_holds 8 = .ok (.iload_n 1, 1) := by decide +kernel
theorem dX7_holds_9 : decode cX7_holds 9 = .ok (.aload_n 2, 1) := by decide +kernel
theorem dX7_holds_10 : decode cX7_holds 10 = .ok (.invokespecial 29, 3) := by decide +kernel
theorem dX7_holds_13 : decode cX7_holds 13 = .ok (.aload_n 0, 1) := by decide +kernel
theorem dX7_holds_14 : decode cX7_holds 14 = .ok (.getfield 11, 3) := by decide +kernel
theorem dX7_holds_17 : decode cX7_holds 17 = .ok (.ixor, 1) := by decide +kernel
theorem dX7_holds_18 : decode cX7_holds 18 = .ok (.ireturn, 1) := by decide +kernel
def D_X7_holds (N : Nat) (h : mh_H) (l0 : Nat) (l1 : Int32) (l2 : Nat) : Option (Int32 × mh_H) :=
  kO h 6 l2 <|
  (D_X6_add N h l2 (30 : Int32)).bind fun q1 =>
  kW q1.2 l0 <|
  (D_X9_holds N q1.2 l0 l1 l2).bind fun q2 =>
  (gW q2.2 l0 3).bind fun v3 =>
  some (q2.1 ^^^ v3, q2.2)
set_option maxHeartbeats 4000000 in
set_option maxRecDepth 100000 in
theorem T_X7_holds {P : mh_E → Prop} {N d : Nat} (hd : 6 ≤ d) {z : (Int32 × mh_H)} {h : mh_H} {l0 : Nat} {l1 : Int32} {l2 : Nat} (hq : D_X7_holds N h l0 l1 l2 = some z) : mh_go P d mX7_holds 0 [some (.ref l0), some (.int l1), some (.ref l2)] [] h (some (.int z.1)) z.2 := by
  unfold D_X7_holds at hq
  refine st_aload_n (pc := 0) dX7_holds_0 rfl ?_
  refine st_bipush (pc := 1) (v := (30 : Int32)) dX7_holds_1 (by decide) ?_
  obtain ⟨⟨hbq1, hkq1⟩, hq⟩ := mh_oi hq
  obtain ⟨q1, e1, hq⟩ := mh_ob hq
  refine st_invV (pc := 3) (ci := 6) (vs := [.int (30 : Int32)]) (rest := []) (st2 := [.int q1.1]) dX7_holds_3 okX6_add (by decide) hkq1 hbq1 wd_1042 wd_688 wd_689 pdX6_add rfl rfl rfl rfl (Nat.le_trans (by decide) hd) (Nat.le_of_ble_eq_true rfl) (T_X6_add (Nat.le_refl _) e1) rfl ?_
  refine st_pop (pc := 6) dX7_holds_6 rfl ?_
  refine st_aload_n (pc := 7) dX7_holds_7 rfl ?_
  refine st_iload_n (pc := 8) dX7_holds_8 rfl ?_
  refine st_aload_n (pc := 9) dX7_holds_9 rfl ?_
  obtain ⟨⟨hbq2, hwq2⟩, hq⟩ := mh_oi hq
  obtain ⟨q2, e2, hq⟩ := mh_ob hq
  obtain ⟨ciq2, hkq2, hcq2, -⟩ := mh_w6 (Pr := fun _ => True) trivial trivial trivial trivial trivial trivial _ hwq2
  refine st_invP (pc := 10) (vs := [.int l1, .ref l2]) (rest := []) (st2 := [.int q2.1]) dX7_holds_10 okX9_holds hcq2 hkq2 hbq2 wd_1043 wd_1038 wd_384 wd_1036 (by decide) pdX9_holds rfl rfl rfl rfl (Nat.le_trans (by decide) hd) (Nat.le_of_ble_eq_true rfl) (T_X9_holds (Nat.le_refl _) e2) rfl ?_
  refine st_aload_n (pc := 13) dX7_holds_13 rfl ?_
  refine bd_getw (pc := 14) hq dX7_holds_14 flw_7_11 (by decide) (fun v3 hq => ?_)
  refine st_ixor (pc := 17) dX7_holds_17 ?_
  exact bd_iret (pc := 18) hq dX7_holds_18 rfl
-- HoleWater$Way.spills(ILHoleWater$Row;)I
theorem dX9_spills_0 : decode cX9_spills 0 = .ok (.aload_n 2, 1) := by decide +kernel
theorem dX9_spills_1 : decode cX9_spills 1 = .ok (.bipush 12, 2) := by decide +kernel
theorem dX9_spills_3 : decode cX9_spills 3 = .ok (.invokevirtual 22, 3) := by decide +kernel
theorem dX9_spills_6 : decode cX9_spills 6 = .ok (.pop, 1) := by decide +kernel
theorem dX9_spills_7 : decode cX9_spills 7 = .ok (.aload_n 0, 1) := by decide +kernel
theorem dX9_spills_8 : decode cX9_spills 8 = .ok (.iload_n 1, 1) := by decide +kernel
theorem dX9_spills_9 : decode cX9_spills 9 = .ok (.aload_n 2, 1) := by decide +kernel
theorem dX9_spills_10 : decode cX9_spills 10 = .ok (.invokevirtual 32, 3) := by decide +kernel
theorem dX9_spills_13 : decode cX9_spills 13 = .ok (.aload_n 0, 1) := by decide +kernel
theorem dX9_spills_14 : decode cX9_spills 14 = .ok (.getfield 19, 3) := by decide +kernel
theorem dX9_spills_17 : decode cX9_spills 17 = .ok (.isub, 1) := by decide +kernel
theorem dX9_spills_18 : decode cX9_spills 18 = .ok (.ireturn, 1) := by decide +kernel
def V_Way_holds (N : Nat) (h : mh_H) (b : Nat) (a1 : Int32) (a2 : Nat) : Option (Int32 × mh_H) :=
  if b < mh_n h ∧ mh_k h b = 11 then D_X9_holds N h b a1 a2
  else if b < mh_n h ∧ mh_k h b = 2 then D_X7_holds N h b a1 a2
  else if b < mh_n h ∧ mh_k h b = 4 then D_X9_holds N h b a1 a2
  else if b < mh_n h ∧ mh_k h b = 5 then D_X9_holds N h b a1 a2
  else if b < mh_n h ∧ mh_k h b = 6 then D_X4_holds N h b a1 a2
  else if b < mh_n h ∧ mh_k h b = 9 then D_X7_holds N h b a1 a2
  else none
set_option maxHeartbeats 4000000 in
set_option maxRecDepth 100000 in
theorem S_X9_spills_10 {P : mh_E → Prop} {N d : Nat} {lv : List (Option Value)} {rest : List Value} {h : mh_H} {b : Nat} {a1 : Int32} {a2 : Nat} {q : (Int32 × mh_H)} {r : Option Value} {h' : mh_H} (hd : 7 ≤ d) (hW : (rest.map fun v => v.category).sum ≤ 8) (e : V_Way_holds N h b a1 a2 = some q) (k : mh_go P d mX9_spills 13 lv (.int q.1 :: rest) q.2 r h') : mh_go P d mX9_spills 10 lv (.ref a2 :: .int a1 :: .ref b :: rest) h r h' := by
  unfold V_Way_holds at e
  rcases mh_or e with ⟨⟨hb, hk⟩, e⟩ | ⟨-, e⟩
  · exact st_invV (pc := 10) (ci := 9) (vs := [.int a1, .ref a2]) dX9_spills_10 okX9_holds (by decide) hk hb wd_1072 wd_1036 wd_1037 pdX9_holds rfl rfl rfl rfl (Nat.le_trans (by decide) hd) hW (T_X9_holds (Nat.le_refl _) e) rfl k
  rcases mh_or e with ⟨⟨hb, hk⟩, e⟩ | ⟨-, e⟩
  · exact st_invU (pc := 10) (ci := 0) (owner := "HoleWater$Way") (x := ⟨"HoleWater$Way", "holds", "(ILHoleWater$Row;)I"⟩) (vs := [.int a1, .ref a2]) dX9_spills_10 okX7_holds (by decide) hk hb wd_1072 wd_1038 wd_1036 wd_1052 wd_1040 wd_1039 ⟨by decide, by decide⟩ pdX7_holds rfl rfl rfl rfl (Nat.le_trans (by decide) hd) hW (T_X7_holds (Nat.le_refl _) e) rfl k
  rcases mh_or e with ⟨⟨hb, hk⟩, e⟩ | ⟨-, e⟩
  · exact st_invV (pc := 10) (ci := 2) (vs := [.int a1, .ref a2]) dX9_spills_10 okX9_holds (by decide) hk hb wd_1072 wd_1036 wd_1044 pdX9_holds rfl rfl rfl rfl (Nat.le_trans (by decide) hd) hW (T_X9_holds (Nat.le_refl _) e) rfl k
  rcases mh_or e with ⟨⟨hb, hk⟩, e⟩ | ⟨-, e⟩
  · exact st_invV (pc := 10) (ci := 3) (vs := [.int a1, .ref a2]) dX9_spills_10 okX9_holds (by decide) hk hb wd_1072 wd_1036 wd_1045 pdX9_holds rfl rfl rfl rfl (Nat.le_trans (by decide) hd) hW (T_X9_holds (Nat.le_refl _) e) rfl k
  rcases mh_or e with ⟨⟨hb, hk⟩, e⟩ | ⟨-, e⟩
  · exact st_invU (pc := 10) (ci := 4) (owner := "HoleWater$Way") (x := ⟨"HoleWater$Way", "holds", "(ILHoleWater$Row;)I"⟩) (vs := [.int a1, .ref a2]) dX9_spills_10 okX4_holds (by decide) hk hb wd_1072 wd_1038 wd_1036 wd_1052 wd_1047 wd_1046 ⟨by decide, by decide⟩ pdX4_holds rfl rfl rfl rfl (Nat.le_trans (by decide) hd) hW (T_X4_holds (Nat.le_refl _) e) rfl k
  rcases mh_or e with ⟨⟨hb, hk⟩, e⟩ | ⟨-, e⟩
  · exact st_invU (pc := 10) (ci := 7) (owner := "HoleWater$Way") (x := ⟨"HoleWater$Way", "holds", "(ILHoleWater$Row;)I"⟩) (vs := [.int a1, .ref a2]) dX9_spills_10 okX7_holds (by decide) hk hb wd_1072 wd_1038 wd_1036 wd_1052 wd_1040 wd_1051 ⟨by decide, by decide⟩ pdX7_holds rfl rfl rfl rfl (Nat.le_trans (by decide) hd) hW (T_X7_holds (Nat.le_refl _) e) rfl k
  cases e
def D_X9_spills (N : Nat) (h : mh_H) (l0 : Nat) (l1 : Int32) (l2 : Nat) : Option (Int32 × mh_H) :=
  kO h 6 l2 <|
  (D_X6_add N h l2 (12 : Int32)).bind fun q1 =>
  (V_Way_holds N q1.2 l0 l1 l2).bind fun q2 =>
  (gW q2.2 l0 3).bind fun v3 =>
  some (q2.1 - v3, q2.2)
set_option maxHeartbeats 4000000 in
set_option maxRecDepth 100000 in
theorem T_X9_spills {P : mh_E → Prop} {N d : Nat} (hd : 7 ≤ d) {z : (Int32 × mh_H)} {h : mh_H} {l0 : Nat} {l1 : Int32} {l2 : Nat} (hq : D_X9_spills N h l0 l1 l2 = some z) : mh_go P d mX9_spills 0 [some (.ref l0), some (.int l1), some (.ref l2)] [] h (some (.int z.1)) z.2 := by
  unfold D_X9_spills at hq
  refine st_aload_n (pc := 0) dX9_spills_0 rfl ?_
  refine st_bipush (pc := 1) (v := (12 : Int32)) dX9_spills_1 (by decide) ?_
  obtain ⟨⟨hbq1, hkq1⟩, hq⟩ := mh_oi hq
  obtain ⟨q1, e1, hq⟩ := mh_ob hq
  refine st_invV (pc := 3) (ci := 6) (vs := [.int (12 : Int32)]) (rest := []) (st2 := [.int q1.1]) dX9_spills_3 okX6_add (by decide) hkq1 hbq1 wd_1034 wd_688 wd_689 pdX6_add rfl rfl rfl rfl (Nat.le_trans (by decide) hd) (Nat.le_of_ble_eq_true rfl) (T_X6_add (Nat.le_refl _) e1) rfl ?_
  refine st_pop (pc := 6) dX9_spills_6 rfl ?_
  refine st_aload_n (pc := 7) dX9_spills_7 rfl ?_
  refine st_iload_n (pc := 8) dX9_spills_8 rfl ?_
  refine st_aload_n (pc := 9) dX9_spills_9 rfl ?_
  obtain ⟨q2, e2, hq⟩ := mh_ob hq
  refine S_X9_spills_10 (rest := []) hd (Nat.le_of_ble_eq_true rfl) e2 ?_
  refine st_aload_n (pc := 13) dX9_spills_13 rfl ?_
  refine bd_getw (pc := 14) hq dX9_spills_14 flw_9_19 (by decide) (fun v3 hq => ?_)
  refine st_isub (pc := 17) dX9_spills_17 ?_
  exact bd_iret (pc := 18) hq dX9_spills_18 rfl
-- HoleWater$Overflow.spills(ILHoleWater$Row;)I
theorem dX3_spills_0 : decode cX3_spills 0 = .ok (.aload_n 2, 1) := by decide +kernel
theorem dX3_spills_1 : decode cX3_spills 1 = .ok (.bipush 41, 2) := by decide +kernel
theorem dX3_spills_3 : decode cX3_spills 3 = .ok (.invokevirtual 7, 3) := by decide +kernel
theorem dX3_spills_6 : decode cX3_spills 6 = .ok (.pop, 1) := by decide +kernel
theorem dX3_spills_7 : decode cX3_spills 7 = .ok (.aload_n 0, 1) := by decide +kernel
theorem dX3_spills_8 : decode cX3_spills 8 = .ok (.iload_n 1, 1) := by decide +kernel
theorem dX3_spills_9 : decode cX3_spills 9 = .ok (.aload_n 2, 1) := by decide +kernel
theorem dX3_spills_10 : decode cX3_spills 10 = .ok (.invokespecial 23, 3) := by decide +kernel
theorem dX3_spills_13 : decode cX3_spills 13 = .ok (.iconst 3, 1) := by decide +kernel
theorem dX3_spills_14 : decode cX3_spills 14 = .ok (.imul, 1) := by decide +kernel
theorem dX3_spills_15 : decode cX3_spills 15 = .ok (.ireturn, 1) := by decide +kernel
def D_X3_spills (N : Nat) (h : mh_H) (l0 : Nat) (l1 : Int32) (l2 : Nat) : Option (Int32 × mh_H) :=
  kO h 6 l2 <|
  (D_X6_add N h l2 (41 : Int32)).bind fun q1 =>
  kW q1.2 l0 <|
  (D_X9_spills N q1.2 l0 l1 l2).bind fun q2 =>
  some (q2.1 * (3 : Int32), q2.2)
set_option maxHeartbeats 4000000 in
set_option maxRecDepth 100000 in
theorem T_X3_spills {P : mh_E → Prop} {N d : Nat} (hd : 8 ≤ d) {z : (Int32 × mh_H)} {h : mh_H} {l0 : Nat} {l1 : Int32} {l2 : Nat} (hq : D_X3_spills N h l0 l1 l2 = some z) : mh_go P d mX3_spills 0 [some (.ref l0), some (.int l1), some (.ref l2)] [] h (some (.int z.1)) z.2 := by
  unfold D_X3_spills at hq
  refine st_aload_n (pc := 0) dX3_spills_0 rfl ?_
  refine st_bipush (pc := 1) (v := (41 : Int32)) dX3_spills_1 (by decide) ?_
  obtain ⟨⟨hbq1, hkq1⟩, hq⟩ := mh_oi hq
  obtain ⟨q1, e1, hq⟩ := mh_ob hq
  refine st_invV (pc := 3) (ci := 6) (vs := [.int (41 : Int32)]) (rest := []) (st2 := [.int q1.1]) dX3_spills_3 okX6_add (by decide) hkq1 hbq1 wd_1029 wd_688 wd_689 pdX6_add rfl rfl rfl rfl (Nat.le_trans (by decide) hd) (Nat.le_of_ble_eq_true rfl) (T_X6_add (Nat.le_refl _) e1) rfl ?_
  refine st_pop (pc := 6) dX3_spills_6 rfl ?_
  refine st_aload_n (pc := 7) dX3_spills_7 rfl ?_
  refine st_iload_n (pc := 8) dX3_spills_8 rfl ?_
  refine st_aload_n (pc := 9) dX3_spills_9 rfl ?_
  obtain ⟨⟨hbq2, hwq2⟩, hq⟩ := mh_oi hq
  obtain ⟨q2, e2, hq⟩ := mh_ob hq
  obtain ⟨ciq2, hkq2, hcq2, -⟩ := mh_w6 (Pr := fun _ => True) trivial trivial trivial trivial trivial trivial _ hwq2
  refine st_invPU (pc := 10) (x := ⟨"HoleWater$Open", "spills", "(ILHoleWater$Row;)I"⟩) (vs := [.int l1, .ref l2]) (rest := []) (st2 := [.int q2.1]) dX3_spills_10 okX9_spills hcq2 hkq2 hbq2 wd_1063 wd_1064 rfl wd_395 wd_373 wd_1055 (by decide) pdX9_spills rfl rfl rfl rfl (Nat.le_trans (by decide) hd) (Nat.le_of_ble_eq_true rfl) (T_X9_spills (Nat.le_refl _) e2) rfl ?_
  refine st_iconst (pc := 13) (v := (3 : Int32)) dX3_spills_13 rfl ?_
  refine st_imul (pc := 14) dX3_spills_14 ?_
  exact bd_iret (pc := 15) hq dX3_spills_15 rfl
-- HoleWater$Pool.spills(ILHoleWater$Row;)I
theorem dX4_spills_0 : decode cX4_spills 0 = .ok (.aload_n 2, 1) := by decide +kernel
theorem dX4_spills_1 : decode cX4_spills 1 = .ok (.bipush 51, 2) := by decide +kernel
theorem dX4_spills_3 : decode cX4_spills 3 = .ok (.invokevirtual 19, 3) := by decide +kernel
theorem dX4_spills_6 : decode cX4_spills 6 = .ok (.pop, 1) := by decide +kernel
theorem dX4_spills_7 : decode cX4_spills 7 = .ok (.iconst 0, 1) := by decide +kernel
theorem dX4_spills_8 : decode cX4_spills 8 = .ok (.aload_n 0, 1) := by decide +kernel
theorem dX4_spills_9 : decode cX4_spills 9 = .ok (.iload_n 1, 1) := by decide +kernel
theorem dX4_spills_10 : decode cX4_spills 10 = .ok (.aload_n 2, 1) := by decide +kernel
theorem dX4_spills_11 : decode cX4_spills 11 = .ok (.invokespecial 29, 3) := by decide +kernel
theorem dX4_spills_14 : decode cX4_spills 14 = .ok (.isub, 1) := by decide +kernel
theorem dX4_spills_15 : decode cX4_spills 15 = .ok (.ireturn, 1) := by decide +kernel
def D_X4_spills (N : Nat) (h : mh_H) (l0 : Nat) (l1 : Int32) (l2 : Nat) : Option (Int32 × mh_H) :=
  kO h 6 l2 <|
  (D_X6_add N h l2 (51 : Int32)).bind fun q1 =>
  kW q1.2 l0 <|
  (D_X9_spills N q1.2 l0 l1 l2).bind fun q2 =>
  some ((0 : Int32) - q2.1, q2.2)
set_option maxHeartbeats 4000000 in
set_option maxRecDepth 100000 in
theorem T_X4_spills {P : mh_E → Prop} {N d : Nat} (hd : 8 ≤ d) {z : (Int32 × mh_H)} {h : mh_H} {l0 : Nat} {l1 : Int32} {l2 : Nat} (hq : D_X4_spills N h l0 l1 l2 = some z) : mh_go P d mX4_spills 0 [some (.ref l0), some (.int l1), some (.ref l2)] [] h (some (.int z.1)) z.2 := by
  unfold D_X4_spills at hq
  refine st_aload_n (pc := 0) dX4_spills_0 rfl ?_
  refine st_bipush (pc := 1) (v := (51 : Int32)) dX4_spills_1 (by decide) ?_
  obtain ⟨⟨hbq1, hkq1⟩, hq⟩ := mh_oi hq
  obtain ⟨q1, e1, hq⟩ := mh_ob hq
  refine st_invV (pc := 3) (ci := 6) (vs := [.int (51 : Int32)]) (rest := []) (st2 := [.int q1.1]) dX4_spills_3 okX6_add (by decide) hkq1 hbq1 wd_1049 wd_688 wd_689 pdX6_add rfl rfl rfl rfl (Nat.le_trans (by decide) hd) (Nat.le_of_ble_eq_true rfl) (T_X6_add (Nat.le_refl _) e1) rfl ?_
  refine st_pop (pc := 6) dX4_spills_6 rfl ?_
  refine st_iconst (pc := 7) (v := (0 : Int32)) dX4_spills_7 rfl ?_
  refine st_aload_n (pc := 8) dX4_spills_8 rfl ?_
  refine st_iload_n (pc := 9) dX4_spills_9 rfl ?_
  refine st_aload_n (pc := 10) dX4_spills_10 rfl ?_
  obtain ⟨⟨hbq2, hwq2⟩, hq⟩ := mh_oi hq
  obtain ⟨q2, e2, hq⟩ := mh_ob hq
  obtain ⟨ciq2, hkq2, hcq2, -⟩ := mh_w6 (Pr := fun _ => True) trivial trivial trivial trivial trivial trivial _ hwq2
  refine st_invP (pc := 11) (vs := [.int l1, .ref l2]) (rest := [.int (0 : Int32)]) (st2 := [.int q2.1, .int (0 : Int32)]) dX4_spills_11 okX9_spills hcq2 hkq2 hbq2 wd_1069 wd_1057 wd_406 wd_1055 (by decide) pdX9_spills rfl rfl rfl rfl (Nat.le_trans (by decide) hd) (Nat.le_of_ble_eq_true rfl) (T_X9_spills (Nat.le_refl _) e2) rfl ?_
  refine st_isub (pc := 14) dX4_spills_14 ?_
  exact bd_iret (pc := 15) hq dX4_spills_15 rfl
-- HoleWater.voice(III)I
theorem dX11_voice_20 : decode cX11_voice 20 = .ok (.aload_n 0, 1) := by decide +kernel
theorem dX11_voice_21 : decode cX11_voice 21 = .ok (.iconst 1, 1) := by decide +kernel
theorem dX11_voice_22 : decode cX11_voice 22 = .ok (.invokevirtual 66, 3) := by decide +kernel
theorem dX11_voice_25 : decode cX11_voice 25 = .ok (.ireturn, 1) := by decide +kernel
theorem dX11_voice_0 : decode cX11_voice 0 = .ok (.aload_n 0, 1) := by decide +kernel
theorem dX11_voice_1 : decode cX11_voice 1 = .ok (.getfield 12, 3) := by decide +kernel
theorem dX11_voice_4 : decode cX11_voice 4 = .ok (.iload_n 1, 1) := by decide +kernel
theorem dX11_voice_5 : decode cX11_voice 5 = .ok (.invokevirtual 127, 3) := by decide +kernel
theorem dX11_voice_8 : decode cX11_voice 8 = .ok (.ifCond .eq 12, 3) := by decide +kernel
theorem dX11_voice_11 : decode cX11_voice 11 = .ok (.iload_n 2, 1) := by decide +kernel
theorem dX11_voice_12 : decode cX11_voice 12 = .ok (.iconst 0, 1) := by decide +kernel
theorem dX11_voice_13 : decode cX11_voice 13 = .ok (.iconst 3, 1) := by decide +kernel
theorem dX11_voice_14 : decode cX11_voice 14 = .ok (.invokestatic 62, 3) := by decide +kernel
theorem dX11_voice_17 : decode cX11_voice 17 = .ok (.ifCond .ne 9, 3) := by decide +kernel
theorem dX11_voice_26 : decode cX11_voice 26 = .ok (.aload_n 0, 1) := by decide +kernel
theorem dX11_voice_27 : decode cX11_voice 27 = .ok (.getfield 12, 3) := by decide +kernel
theorem dX11_voice_30 : decode cX11_voice 30 = .ok (.getfield 130, 3) := by decide +kernel
theorem dX11_voice_33 : decode cX11_voice 33 = .ok (.iload_n 1, 1) := by decide +kernel
theorem dX11_voice_34 : decode cX11_voice 34 = .ok (.aaload, 1) := by decide +kernel
theorem dX11_voice_35 : decode cX11_voice 35 = .ok (.astore 4, 2) := by decide +kernel
theorem dX11_voice_37 : decode cX11_voice 37 = .ok (.aload_n 0, 1) := by decide +kernel
theorem dX11_voice_38 : decode cX11_voice 38 = .ok (.getfield 38, 3) := by decide +kernel
theorem dX11_voice_41 : decode cX11_voice 41 = .ok (.iconst 0, 1) := by decide +kernel
theorem dX11_voice_42 : decode cX11_voice 42 = .ok (.putfield 233, 3) := by decide +kernel
theorem dX11_voice_45 : decode cX11_voice 45 = .ok (.iload_n 2, 1) := by decide +kernel
theorem dX11_voice_46 : decode cX11_voice 46 = .ok (.tableswitch 59 0 2 #[26, 37, 48], 26) := by decide +kernel
theorem dX11_voice_72 : decode cX11_voice 72 = .ok (.aload 4, 2) := by decide +kernel
theorem dX11_voice_74 : decode cX11_voice 74 = .ok (.iload_n 3, 1) := by decide +kernel
theorem dX11_voice_75 : decode cX11_voice 75 = .ok (.aload_n 0, 1) := by decide +kernel
theorem dX11_voice_76 : decode cX11_voice 76 = .ok (.getfield 38, 3) := by decide +kernel
theorem dX11_voice_79 : decode cX11_voice 79 = .ok (.invokevirtual 332, 3) := by decide +kernel
theorem dX11_voice_82 : decode cX11_voice 82 = .ok (.ireturn, 1) := by decide +kernel
theorem dX11_voice_83 : decode cX11_voice 83 = .ok (.aload 4, 2) := by decide +kernel
theorem dX11_voice_85 : decode cX11_voice 85 = .ok (.iload_n 3, 1) := by decide +kernel
theorem dX11_voice_86 : decode cX11_voice 86 = .ok (.aload_n 0, 1) := by decide +kernel
theorem dX11_voice_87 : decode cX11_voice 87 = .ok (.getfield 38, 3) := by decide +kernel
theorem dX11_voice_90 : decode cX11_voice 90 = .ok (.invokevirtual 336, 3) := by decide +kernel
theorem dX11_voice_93 : decode cX11_voice 93 = .ok (.ireturn, 1) := by decide +kernel
theorem dX11_voice_94 : decode cX11_voice 94 = .ok (.aload 4, 2) := by decide +kernel
theorem dX11_voice_96 : decode cX11_voice 96 = .ok (.iload_n 3, 1) := by decide +kernel
theorem dX11_voice_97 : decode cX11_voice 97 = .ok (.aload_n 0, 1) := by decide +kernel
theorem dX11_voice_98 : decode cX11_voice 98 = .ok (.getfield 38, 3) := by decide +kernel
theorem dX11_voice_101 : decode cX11_voice 101 = .ok (.invokevirtual 339, 3) := by decide +kernel
theorem dX11_voice_104 : decode cX11_voice 104 = .ok (.ireturn, 1) := by decide +kernel
theorem dX11_voice_105 : decode cX11_voice 105 = .ok (.aload 4, 2) := by decide +kernel
theorem dX11_voice_107 : decode cX11_voice 107 = .ok (.iload_n 3, 1) := by decide +kernel
theorem dX11_voice_108 : decode cX11_voice 108 = .ok (.aload_n 0, 1) := by decide +kernel
theorem dX11_voice_109 : decode cX11_voice 109 = .ok (.getfield 38, 3) := by decide +kernel
theorem dX11_voice_112 : decode cX11_voice 112 = .ok (.invokevirtual 342, 3) := by decide +kernel
theorem dX11_voice_115 : decode cX11_voice 115 = .ok (.istore 5, 2) := by decide +kernel
theorem dX11_voice_117 : decode cX11_voice 117 = .ok (.aload 4, 2) := by decide +kernel
theorem dX11_voice_119 : decode cX11_voice 119 = .ok (.invokevirtual 345, 3) := by decide +kernel
theorem dX11_voice_122 : decode cX11_voice 122 = .ok (.ifCond .eq 12, 3) := by decide +kernel
theorem dX11_voice_134 : decode cX11_voice 134 = .ok (.iload 5, 2) := by decide +kernel
theorem dX11_voice_136 : decode cX11_voice 136 = .ok (.ireturn, 1) := by decide +kernel
theorem dX11_voice_125 : decode cX11_voice 125 = .ok (.aload_n 0, 1) := by decide +kernel
theorem dX11_voice_126 : decode cX11_voice 126 = .ok (.bipush 6, 2) := by decide +kernel
theorem dX11_voice_128 : decode cX11_voice 128 = .ok (.invokevirtual 66, 3) := by decide +kernel
theorem dX11_voice_131 : decode cX11_voice 131 = .ok (.goto 5, 3) := by decide +kernel
set_option maxHeartbeats 4000000 in
set_option maxRecDepth 100000 in
theorem S_X11_voice_79 {P : mh_E → Prop} {N d : Nat} {lv : List (Option Value)} {rest : List Value} {h : mh_H} {b : Nat} {a1 : Int32} {a2 : Nat} {q : (Int32 × mh_H)} {r : Option Value} {h' : mh_H} (hd : 9 ≤ d) (hW : (rest.map fun v => v.category).sum ≤ 8) (e : V_Way_runs N h b a1 a2 = some q) (k : mh_go P d mX11_voice 82 lv (.int q.1 :: rest) q.2 r h') : mh_go P d mX11_voice 79 lv (.ref a2 :: .int a1 :: .ref b :: rest) h r h' := by
  unfold V_Way_runs at e
  rcases mh_or e with ⟨⟨hb, hk⟩, e⟩ | ⟨-, e⟩
  · exact st_invV (pc := 79) (ci := 9) (vs := [.int a1, .ref a2]) dX11_voice_79 okX9_runs (by decide) hk hb wd_1016 wd_1017 wd_1018 pdX9_runs rfl rfl rfl rfl (Nat.le_trans (by decide) hd) hW (T_X9_runs (Nat.le_refl _) e) rfl k
  rcases mh_or e with ⟨⟨hb, hk⟩, e⟩ | ⟨-, e⟩
  · exact st_invV (pc := 79) (ci := 0) (vs := [.int a1, .ref a2]) dX11_voice_79 okX9_runs (by decide) hk hb wd_1016 wd_1017 wd_1020 pdX9_runs rfl rfl rfl rfl (Nat.le_trans (by decide) hd) hW (T_X9_runs (Nat.le_refl _) e) rfl k
  rcases mh_or e with ⟨⟨hb, hk⟩, e⟩ | ⟨-, e⟩
  · exact st_invU (pc := 79) (ci := 2) (owner := "HoleWater$Way") (x := ⟨"HoleWater$Way", "runs", "(ILHoleWater$Row;)I"⟩) (vs := [.int a1, .ref a2]) dX11_voice_79 okX2_runs (by decide) hk hb wd_1016 wd_1019 wd_1017 wd_1033 wd_1022 wd_1021 ⟨by decide, by decide⟩ pdX2_runs rfl rfl rfl rfl (Nat.le_trans (by decide) hd) hW (T_X2_runs (Nat.le_refl _) e) rfl k
  rcases mh_or e with ⟨⟨hb, hk⟩, e⟩ | ⟨-, e⟩
  · exact st_invU (pc := 79) (ci := 3) (owner := "HoleWater$Way") (x := ⟨"HoleWater$Way", "runs", "(ILHoleWater$Row;)I"⟩) (vs := [.int a1, .ref a2]) dX11_voice_79 okX3_runs (by decide) hk hb wd_1016 wd_1019 wd_1017 wd_1033 wd_1027 wd_1026 ⟨by decide, by decide⟩ pdX3_runs rfl rfl rfl rfl (Nat.le_trans (by decide) hd) hW (T_X3_runs (Nat.le_refl _) e) rfl k
  rcases mh_or e with ⟨⟨hb, hk⟩, e⟩ | ⟨-, e⟩
  · exact st_invV (pc := 79) (ci := 4) (vs := [.int a1, .ref a2]) dX11_voice_79 okX9_runs (by decide) hk hb wd_1016 wd_1017 wd_1031 pdX9_runs rfl rfl rfl rfl (Nat.le_trans (by decide) hd) hW (T_X9_runs (Nat.le_refl _) e) rfl k
  rcases mh_or e with ⟨⟨hb, hk⟩, e⟩ | ⟨-, e⟩
  · exact st_invV (pc := 79) (ci := 7) (vs := [.int a1, .ref a2]) dX11_voice_79 okX9_runs (by decide) hk hb wd_1016 wd_1017 wd_1032 pdX9_runs rfl rfl rfl rfl (Nat.le_trans (by decide) hd) hW (T_X9_runs (Nat.le_refl _) e) rfl k
  cases e
set_option maxHeartbeats 4000000 in
set_option maxRecDepth 100000 in
theorem S_X11_voice_90 {P : mh_E → Prop} {N d : Nat} {lv : List (Option Value)} {rest : List Value} {h : mh_H} {b : Nat} {a1 : Int32} {a2 : Nat} {q : (Int32 × mh_H)} {r : Option Value} {h' : mh_H} (hd : 9 ≤ d) (hW : (rest.map fun v => v.category).sum ≤ 8) (e : V_Way_holds N h b a1 a2 = some q) (k : mh_go P d mX11_voice 93 lv (.int q.1 :: rest) q.2 r h') : mh_go P d mX11_voice 90 lv (.ref a2 :: .int a1 :: .ref b :: rest) h r h' := by
  unfold V_Way_holds at e
  rcases mh_or e with ⟨⟨hb, hk⟩, e⟩ | ⟨-, e⟩
  · exact st_invV (pc := 90) (ci := 9) (vs := [.int a1, .ref a2]) dX11_voice_90 okX9_holds (by decide) hk hb wd_1035 wd_1036 wd_1037 pdX9_holds rfl rfl rfl rfl (Nat.le_trans (by decide) hd) hW (T_X9_holds (Nat.le_refl _) e) rfl k
  rcases mh_or e with ⟨⟨hb, hk⟩, e⟩ | ⟨-, e⟩
  · exact st_invU (pc := 90) (ci := 0) (owner := "HoleWater$Way") (x := ⟨"HoleWater$Way", "holds", "(ILHoleWater$Row;)I"⟩) (vs := [.int a1, .ref a2]) dX11_voice_90 okX7_holds (by decide) hk hb wd_1035 wd_1038 wd_1036 wd_1052 wd_1040 wd_1039 ⟨by decide, by decide⟩ pdX7_holds rfl rfl rfl rfl (Nat.le_trans (by decide) hd) hW (T_X7_holds (Nat.le_refl _) e) rfl k
  rcases mh_or e with ⟨⟨hb, hk⟩, e⟩ | ⟨-, e⟩
  · exact st_invV (pc := 90) (ci := 2) (vs := [.int a1, .ref a2]) dX11_voice_90 okX9_holds (by decide) hk hb wd_1035 wd_1036 wd_1044 pdX9_holds rfl rfl rfl rfl (Nat.le_trans (by decide) hd) hW (T_X9_holds (Nat.le_refl _) e) rfl k
  rcases mh_or e with ⟨⟨hb, hk⟩, e⟩ | ⟨-, e⟩
  · exact st_invV (pc := 90) (ci := 3) (vs := [.int a1, .ref a2]) dX11_voice_90 okX9_holds (by decide) hk hb wd_1035 wd_1036 wd_1045 pdX9_holds rfl rfl rfl rfl (Nat.le_trans (by decide) hd) hW (T_X9_holds (Nat.le_refl _) e) rfl k
  rcases mh_or e with ⟨⟨hb, hk⟩, e⟩ | ⟨-, e⟩
  · exact st_invU (pc := 90) (ci := 4) (owner := "HoleWater$Way") (x := ⟨"HoleWater$Way", "holds", "(ILHoleWater$Row;)I"⟩) (vs := [.int a1, .ref a2]) dX11_voice_90 okX4_holds (by decide) hk hb wd_1035 wd_1038 wd_1036 wd_1052 wd_1047 wd_1046 ⟨by decide, by decide⟩ pdX4_holds rfl rfl rfl rfl (Nat.le_trans (by decide) hd) hW (T_X4_holds (Nat.le_refl _) e) rfl k
  rcases mh_or e with ⟨⟨hb, hk⟩, e⟩ | ⟨-, e⟩
  · exact st_invU (pc := 90) (ci := 7) (owner := "HoleWater$Way") (x := ⟨"HoleWater$Way", "holds", "(ILHoleWater$Row;)I"⟩) (vs := [.int a1, .ref a2]) dX11_voice_90 okX7_holds (by decide) hk hb wd_1035 wd_1038 wd_1036 wd_1052 wd_1040 wd_1051 ⟨by decide, by decide⟩ pdX7_holds rfl rfl rfl rfl (Nat.le_trans (by decide) hd) hW (T_X7_holds (Nat.le_refl _) e) rfl k
  cases e
def V_Way_spills (N : Nat) (h : mh_H) (b : Nat) (a1 : Int32) (a2 : Nat) : Option (Int32 × mh_H) :=
  if b < mh_n h ∧ mh_k h b = 11 then D_X9_spills N h b a1 a2
  else if b < mh_n h ∧ mh_k h b = 2 then D_X9_spills N h b a1 a2
  else if b < mh_n h ∧ mh_k h b = 4 then D_X9_spills N h b a1 a2
  else if b < mh_n h ∧ mh_k h b = 5 then D_X3_spills N h b a1 a2
  else if b < mh_n h ∧ mh_k h b = 6 then D_X4_spills N h b a1 a2
  else if b < mh_n h ∧ mh_k h b = 9 then D_X9_spills N h b a1 a2
  else none
set_option maxHeartbeats 4000000 in
set_option maxRecDepth 100000 in
theorem S_X11_voice_101 {P : mh_E → Prop} {N d : Nat} {lv : List (Option Value)} {rest : List Value} {h : mh_H} {b : Nat} {a1 : Int32} {a2 : Nat} {q : (Int32 × mh_H)} {r : Option Value} {h' : mh_H} (hd : 9 ≤ d) (hW : (rest.map fun v => v.category).sum ≤ 8) (e : V_Way_spills N h b a1 a2 = some q) (k : mh_go P d mX11_voice 104 lv (.int q.1 :: rest) q.2 r h') : mh_go P d mX11_voice 101 lv (.ref a2 :: .int a1 :: .ref b :: rest) h r h' := by
  unfold V_Way_spills at e
  rcases mh_or e with ⟨⟨hb, hk⟩, e⟩ | ⟨-, e⟩
  · exact st_invV (pc := 101) (ci := 9) (vs := [.int a1, .ref a2]) dX11_voice_101 okX9_spills (by decide) hk hb wd_1054 wd_1055 wd_1056 pdX9_spills rfl rfl rfl rfl (Nat.le_trans (by decide) hd) hW (T_X9_spills (Nat.le_refl _) e) rfl k
  rcases mh_or e with ⟨⟨hb, hk⟩, e⟩ | ⟨-, e⟩
  · exact st_invV (pc := 101) (ci := 0) (vs := [.int a1, .ref a2]) dX11_voice_101 okX9_spills (by decide) hk hb wd_1054 wd_1055 wd_1058 pdX9_spills rfl rfl rfl rfl (Nat.le_trans (by decide) hd) hW (T_X9_spills (Nat.le_refl _) e) rfl k
  rcases mh_or e with ⟨⟨hb, hk⟩, e⟩ | ⟨-, e⟩
  · exact st_invV (pc := 101) (ci := 2) (vs := [.int a1, .ref a2]) dX11_voice_101 okX9_spills (by decide) hk hb wd_1054 wd_1055 wd_1059 pdX9_spills rfl rfl rfl rfl (Nat.le_trans (by decide) hd) hW (T_X9_spills (Nat.le_refl _) e) rfl k
  rcases mh_or e with ⟨⟨hb, hk⟩, e⟩ | ⟨-, e⟩
  · exact st_invU (pc := 101) (ci := 3) (owner := "HoleWater$Way") (x := ⟨"HoleWater$Way", "spills", "(ILHoleWater$Row;)I"⟩) (vs := [.int a1, .ref a2]) dX11_voice_101 okX3_spills (by decide) hk hb wd_1054 wd_1057 wd_1055 wd_1071 wd_1061 wd_1060 ⟨by decide, by decide⟩ pdX3_spills rfl rfl rfl rfl (Nat.le_trans (by decide) hd) hW (T_X3_spills (Nat.le_refl _) e) rfl k
  rcases mh_or e with ⟨⟨hb, hk⟩, e⟩ | ⟨-, e⟩
  · exact st_invU (pc := 101) (ci := 4) (owner := "HoleWater$Way") (x := ⟨"HoleWater$Way", "spills", "(ILHoleWater$Row;)I"⟩) (vs := [.int a1, .ref a2]) dX11_voice_101 okX4_spills (by decide) hk hb wd_1054 wd_1057 wd_1055 wd_1071 wd_1067 wd_1066 ⟨by decide, by decide⟩ pdX4_spills rfl rfl rfl rfl (Nat.le_trans (by decide) hd) hW (T_X4_spills (Nat.le_refl _) e) rfl k
  rcases mh_or e with ⟨⟨hb, hk⟩, e⟩ | ⟨-, e⟩
  · exact st_invV (pc := 101) (ci := 7) (vs := [.int a1, .ref a2]) dX11_voice_101 okX9_spills (by decide) hk hb wd_1054 wd_1055 wd_1070 pdX9_spills rfl rfl rfl rfl (Nat.le_trans (by decide) hd) hW (T_X9_spills (Nat.le_refl _) e) rfl k
  cases e
def V_Way_tells (N : Nat) (h : mh_H) (b : Nat) (a1 : Int32) (a2 : Nat) : Option (Int32 × mh_H) :=
  if b < mh_n h ∧ mh_k h b = 11 then D_X9_tells N h b a1 a2
  else if b < mh_n h ∧ mh_k h b = 2 then D_X0_tells N h b a1 a2
  else if b < mh_n h ∧ mh_k h b = 4 then D_X2_tells N h b a1 a2
  else if b < mh_n h ∧ mh_k h b = 5 then D_X2_tells N h b a1 a2
  else if b < mh_n h ∧ mh_k h b = 6 then D_X9_tells N h b a1 a2
  else if b < mh_n h ∧ mh_k h b = 9 then D_X9_tells N h b a1 a2
  else none
set_option maxHeartbeats 4000000 in
set_option maxRecDepth 100000 in
theorem S_X11_voice_112 {P : mh_E → Prop} {N d : Nat} {lv : List (Option Value)} {rest : List Value} {h : mh_H} {b : Nat} {a1 : Int32} {a2 : Nat} {q : (Int32 × mh_H)} {r : Option Value} {h' : mh_H} (hd : 9 ≤ d) (hW : (rest.map fun v => v.category).sum ≤ 8) (e : V_Way_tells N h b a1 a2 = some q) (k : mh_go P d mX11_voice 115 lv (.int q.1 :: rest) q.2 r h') : mh_go P d mX11_voice 112 lv (.ref a2 :: .int a1 :: .ref b :: rest) h r h' := by
  unfold V_Way_tells at e
  rcases mh_or e with ⟨⟨hb, hk⟩, e⟩ | ⟨-, e⟩
  · exact st_invV (pc := 112) (ci := 9) (vs := [.int a1, .ref a2]) dX11_voice_112 okX9_tells (by decide) hk hb wd_1073 wd_1074 wd_1075 pdX9_tells rfl rfl rfl rfl (Nat.le_trans (by decide) hd) hW (T_X9_tells (Nat.le_refl _) e) rfl k
  rcases mh_or e with ⟨⟨hb, hk⟩, e⟩ | ⟨-, e⟩
  · exact st_invU (pc := 112) (ci := 0) (owner := "HoleWater$Way") (x := ⟨"HoleWater$Way", "tells", "(ILHoleWater$Row;)I"⟩) (vs := [.int a1, .ref a2]) dX11_voice_112 okX0_tells (by decide) hk hb wd_1073 wd_1076 wd_1074 wd_1103 wd_1078 wd_1077 ⟨by decide, by decide⟩ pdX0_tells rfl rfl rfl rfl (Nat.le_trans (by decide) hd) hW (T_X0_tells (Nat.le_refl _) e) rfl k
  rcases mh_or e with ⟨⟨hb, hk⟩, e⟩ | ⟨-, e⟩
  · exact st_invU (pc := 112) (ci := 2) (owner := "HoleWater$Way") (x := ⟨"HoleWater$Way", "tells", "(ILHoleWater$Row;)I"⟩) (vs := [.int a1, .ref a2]) dX11_voice_112 okX2_tells (by decide) hk hb wd_1073 wd_1076 wd_1074 wd_1103 wd_1089 wd_1088 ⟨by decide, by decide⟩ pdX2_tells rfl rfl rfl rfl (Nat.le_trans (by decide) hd) hW (T_X2_tells (Nat.le_refl _) e) rfl k
  rcases mh_or e with ⟨⟨hb, hk⟩, e⟩ | ⟨-, e⟩
  · exact st_invU (pc := 112) (ci := 3) (owner := "HoleWater$Way") (x := ⟨"HoleWater$Way", "tells", "(ILHoleWater$Row;)I"⟩) (vs := [.int a1, .ref a2]) dX11_voice_112 okX2_tells (by decide) hk hb wd_1073 wd_1076 wd_1074 wd_1103 wd_1089 wd_1100 ⟨by decide, by decide⟩ pdX2_tells rfl rfl rfl rfl (Nat.le_trans (by decide) hd) hW (T_X2_tells (Nat.le_refl _) e) rfl k
  rcases mh_or e with ⟨⟨hb, hk⟩, e⟩ | ⟨-, e⟩
  · exact st_invV (pc := 112) (ci := 4) (vs := [.int a1, .ref a2]) dX11_voice_112 okX9_tells (by decide) hk hb wd_1073 wd_1074 wd_1101 pdX9_tells rfl rfl rfl rfl (Nat.le_trans (by decide) hd) hW (T_X9_tells (Nat.le_refl _) e) rfl k
  rcases mh_or e with ⟨⟨hb, hk⟩, e⟩ | ⟨-, e⟩
  · exact st_invV (pc := 112) (ci := 7) (vs := [.int a1, .ref a2]) dX11_voice_112 okX9_tells (by decide) hk hb wd_1073 wd_1074 wd_1102 pdX9_tells rfl rfl rfl rfl (Nat.le_trans (by decide) hd) hW (T_X9_tells (Nat.le_refl _) e) rfl k
  cases e
def V_Way_isParted (N : Nat) (h : mh_H) (b : Nat) : Option (Int32 × mh_H) :=
  if b < mh_n h ∧ mh_k h b = 2 then D_X9_isParted N h b
  else if b < mh_n h ∧ mh_k h b = 4 then D_X9_isParted N h b
  else if b < mh_n h ∧ mh_k h b = 5 then D_X9_isParted N h b
  else if b < mh_n h ∧ mh_k h b = 6 then D_X9_isParted N h b
  else if b < mh_n h ∧ mh_k h b = 9 then D_X9_isParted N h b
  else if b < mh_n h ∧ mh_k h b = 11 then D_X9_isParted N h b
  else none
set_option maxHeartbeats 4000000 in
set_option maxRecDepth 100000 in
theorem S_X11_voice_119 {P : mh_E → Prop} {N d : Nat} {lv : List (Option Value)} {rest : List Value} {h : mh_H} {b : Nat} {q : (Int32 × mh_H)} {r : Option Value} {h' : mh_H} (hd : 9 ≤ d) (hW : (rest.map fun v => v.category).sum ≤ 8) (e : V_Way_isParted N h b = some q) (k : mh_go P d mX11_voice 122 lv (.int q.1 :: rest) q.2 r h') : mh_go P d mX11_voice 119 lv (.ref b :: rest) h r h' := by
  unfold V_Way_isParted at e
  rcases mh_or e with ⟨⟨hb, hk⟩, e⟩ | ⟨-, e⟩
  · exact st_invV (pc := 119) (ci := 0) (vs := []) dX11_voice_119 okX9_isParted (by decide) hk hb wd_1105 wd_1097 wd_1738 pdX9_isParted rfl rfl rfl rfl (Nat.le_trans (by decide) hd) hW (T_X9_isParted (Nat.le_refl _) e) rfl k
  rcases mh_or e with ⟨⟨hb, hk⟩, e⟩ | ⟨-, e⟩
  · exact st_invV (pc := 119) (ci := 2) (vs := []) dX11_voice_119 okX9_isParted (by decide) hk hb wd_1105 wd_1097 wd_1739 pdX9_isParted rfl rfl rfl rfl (Nat.le_trans (by decide) hd) hW (T_X9_isParted (Nat.le_refl _) e) rfl k
  rcases mh_or e with ⟨⟨hb, hk⟩, e⟩ | ⟨-, e⟩
  · exact st_invV (pc := 119) (ci := 3) (vs := []) dX11_voice_119 okX9_isParted (by decide) hk hb wd_1105 wd_1097 wd_1740 pdX9_isParted rfl rfl rfl rfl (Nat.le_trans (by decide) hd) hW (T_X9_isParted (Nat.le_refl _) e) rfl k
  rcases mh_or e with ⟨⟨hb, hk⟩, e⟩ | ⟨-, e⟩
  · exact st_invV (pc := 119) (ci := 4) (vs := []) dX11_voice_119 okX9_isParted (by decide) hk hb wd_1105 wd_1097 wd_1741 pdX9_isParted rfl rfl rfl rfl (Nat.le_trans (by decide) hd) hW (T_X9_isParted (Nat.le_refl _) e) rfl k
  rcases mh_or e with ⟨⟨hb, hk⟩, e⟩ | ⟨-, e⟩
  · exact st_invV (pc := 119) (ci := 7) (vs := []) dX11_voice_119 okX9_isParted (by decide) hk hb wd_1105 wd_1097 wd_1742 pdX9_isParted rfl rfl rfl rfl (Nat.le_trans (by decide) hd) hW (T_X9_isParted (Nat.le_refl _) e) rfl k
  rcases mh_or e with ⟨⟨hb, hk⟩, e⟩ | ⟨-, e⟩
  · exact st_invV (pc := 119) (ci := 9) (vs := []) dX11_voice_119 okX9_isParted (by decide) hk hb wd_1105 wd_1097 wd_1743 pdX9_isParted rfl rfl rfl rfl (Nat.le_trans (by decide) hd) hW (T_X9_isParted (Nat.le_refl _) e) rfl k
  cases e
def D_X11_voice_20 (N : Nat) (h : mh_H) (l0 : Nat) : Option (Int32 × mh_H) :=
  kO h 11 l0 <|
  (D_X11_error N h l0 (1 : Int32)).bind fun q1 =>
  some (q1.1, q1.2)
set_option maxHeartbeats 4000000 in
set_option maxRecDepth 100000 in
theorem T_X11_voice_20 {P : mh_E → Prop} {N d : Nat} (hd : 9 ≤ d) {z : (Int32 × mh_H)} {h : mh_H} {l0 : Nat} (hq : D_X11_voice_20 N h l0 = some z) : mh_go P d mX11_voice 20 [some (.ref l0), none, none, none, none, none] [] h (some (.int z.1)) z.2 := by
  unfold D_X11_voice_20 at hq
  refine st_aload_n (pc := 20) dX11_voice_20 rfl ?_
  refine st_iconst (pc := 21) (v := (1 : Int32)) dX11_voice_21 rfl ?_
  obtain ⟨⟨hbq1, hkq1⟩, hq⟩ := mh_oi hq
  obtain ⟨q1, e1, hq⟩ := mh_ob hq
  refine st_invV (pc := 22) (ci := 11) (vs := [.int (1 : Int32)]) (rest := []) (st2 := [.int q1.1]) dX11_voice_22 okX11_error (by decide) hkq1 hbq1 wd_326 wd_328 wp_0 pdX11_error rfl rfl rfl rfl (Nat.le_trans (by decide) hd) (Nat.le_of_ble_eq_true rfl) (T_X11_error (Nat.le_refl _) e1) rfl ?_
  exact bd_iret (pc := 25) hq dX11_voice_25 rfl
def D_X11_voice (N : Nat) (h : mh_H) (l0 : Nat) (l1 : Int32) (l2 : Int32) (l3 : Int32) : Option (Int32 × mh_H) :=
  (gR h 11 l0 0).bind fun v1 =>
  kO h 10 v1 <|
  (D_X10_isWay N h v1 l1).bind fun q2 =>
  if q2.1 = 0 then (D_X11_voice_20 N q2.2 l0)
  else ((D_X11_within N q2.2 l2 (0 : Int32) (3 : Int32)).bind fun q3 =>
  if q3.1 = 0 then (D_X11_voice_20 N q3.2 l0)
  else ((gR q3.2 11 l0 0).bind fun v4 =>
  (gR q3.2 10 v4 6).bind fun v5 =>
  (aR q3.2 v5 l1).bind fun v6 =>
  (gR q3.2 11 l0 4).bind fun v7 =>
  (pI q3.2 6 v7 1 (0 : Int32)).bind fun h8 =>
  if l2 = 0 then ((gR h8 11 l0 4).bind fun v9 =>
  (V_Way_runs N h8 v6 l3 v9).bind fun q10 =>
  some (q10.1, q10.2))
  else if l2 = 1 then ((gR h8 11 l0 4).bind fun v9 =>
  (V_Way_holds N h8 v6 l3 v9).bind fun q10 =>
  some (q10.1, q10.2))
  else if l2 = 2 then ((gR h8 11 l0 4).bind fun v9 =>
  (V_Way_spills N h8 v6 l3 v9).bind fun q10 =>
  some (q10.1, q10.2))
  else ((gR h8 11 l0 4).bind fun v9 =>
  (V_Way_tells N h8 v6 l3 v9).bind fun q10 =>
  (V_Way_isParted N q10.2 v6).bind fun q11 =>
  if q11.1 = 0 then (some (q10.1, q11.2))
  else (kO q11.2 11 l0 <|
  (D_X11_error N q11.2 l0 (6 : Int32)).bind fun q12 =>
  some (q12.1, q12.2)))))
set_option maxHeartbeats 4000000 in
set_option maxRecDepth 100000 in
theorem T_X11_voice {P : mh_E → Prop} {N d : Nat} (hd : 9 ≤ d) {z : (Int32 × mh_H)} {h : mh_H} {l0 : Nat} {l1 : Int32} {l2 : Int32} {l3 : Int32} (hq : D_X11_voice N h l0 l1 l2 l3 = some z) : mh_go P d mX11_voice 0 [some (.ref l0), some (.int l1), some (.int l2), some (.int l3), none, none] [] h (some (.int z.1)) z.2 := by
  unfold D_X11_voice at hq
  refine st_aload_n (pc := 0) dX11_voice_0 rfl ?_
  refine bd_getr (pc := 1) hq dX11_voice_1 fl_11_12_11 rfl (fun v1 hq => ?_)
  refine st_iload_n (pc := 4) dX11_voice_4 rfl ?_
  obtain ⟨⟨hbq2, hkq2⟩, hq⟩ := mh_oi hq
  obtain ⟨q2, e2, hq⟩ := mh_ob hq
  refine st_invV (pc := 5) (ci := 10) (vs := [.int l1]) (rest := []) (st2 := [.int q2.1]) dX11_voice_5 okX10_isWay (by decide) hkq2 hbq2 wd_428 wd_429 wd_430 pdX10_isWay rfl rfl rfl rfl (Nat.le_trans (by decide) hd) (Nat.le_of_ble_eq_true rfl) (T_X10_isWay (Nat.le_refl _) e2) rfl ?_
  refine bd_if_eq (pc := 8) (tgt := 20) hq dX11_voice_8 (by decide) (fun _ hq => ?_) (fun _ hq => ?_)
  ·
    refine st_lesS (lv' := [some (.ref l0), none, none, none, none, none]) ⟨Or.inr rfl, Or.inl rfl, Or.inl rfl, Or.inl rfl, Or.inr rfl, Or.inr rfl, trivial⟩ ?_
    exact T_X11_voice_20 hd hq
  ·
    refine st_iload_n (pc := 11) dX11_voice_11 rfl ?_
    refine st_iconst (pc := 12) (v := (0 : Int32)) dX11_voice_12 rfl ?_
    refine st_iconst (pc := 13) (v := (3 : Int32)) dX11_voice_13 rfl ?_
    obtain ⟨q3, e3, hq⟩ := mh_ob hq
    refine st_invS (pc := 14) (Y := mX11_within) (vs := [.int l2, .int (0 : Int32), .int (3 : Int32)]) (rest := []) (st2 := [.int q3.1]) dX11_voice_14 okX11_within wd_323 wd_324 pdX11_within rfl rfl rfl rfl (Nat.le_trans (by decide) hd) (Nat.le_of_ble_eq_true rfl) (T_X11_within (Nat.le_refl _) e3) rfl ?_
    refine bd_if_ne (pc := 17) (tgt := 26) hq dX11_voice_17 (by decide) (fun _ hq => ?_) (fun _ hq => ?_)
    ·
      refine st_lesS (lv' := [some (.ref l0), none, none, none, none, none]) ⟨Or.inr rfl, Or.inl rfl, Or.inl rfl, Or.inl rfl, Or.inr rfl, Or.inr rfl, trivial⟩ ?_
      exact T_X11_voice_20 hd hq
    ·
      refine st_aload_n (pc := 26) dX11_voice_26 rfl ?_
      refine bd_getr (pc := 27) hq dX11_voice_27 fl_11_12_11 rfl (fun v4 hq => ?_)
      refine bd_getr (pc := 30) hq dX11_voice_30 fl_11_130_10 rfl (fun v5 hq => ?_)
      refine st_iload_n (pc := 33) dX11_voice_33 rfl ?_
      refine bd_aald (pc := 34) hq dX11_voice_34 (fun v6 hq => ?_)
      refine st_astore (pc := 35) (lv' := [some (.ref l0), some (.int l1), some (.int l2), some (.int l3), some (.ref v6), none]) dX11_voice_35 rfl (by decide) rfl ?_
      refine st_aload_n (pc := 37) dX11_voice_37 rfl ?_
      refine bd_getr (pc := 38) hq dX11_voice_38 fl_11_38_11 rfl (fun v7 hq => ?_)
      refine st_iconst (pc := 41) (v := (0 : Int32)) dX11_voice_41 rfl ?_
      refine bd_puti (pc := 42) hq dX11_voice_42 fl_11_233_6 (Or.inl rfl) rfl (fun h8 hq => ?_)
      refine st_iload_n (pc := 45) dX11_voice_45 rfl ?_
      by_cases c0 : l2 = 0
      ·
        rw [if_pos c0] at hq
        refine st_tin (pc := 46) (tgt := 72) dX11_voice_46 (by rw [c0]; decide) (by rw [c0]; decide) (by rw [c0]; rfl) (by decide) ?_
        refine st_aload (pc := 72) dX11_voice_72 rfl ?_
        refine st_iload_n (pc := 74) dX11_voice_74 rfl ?_
        refine st_aload_n (pc := 75) dX11_voice_75 rfl ?_
        refine bd_getr (pc := 76) hq dX11_voice_76 fl_11_38_11 rfl (fun v9 hq => ?_)
        obtain ⟨q10, e10, hq⟩ := mh_ob hq
        refine S_X11_voice_79 (rest := []) hd (Nat.le_of_ble_eq_true rfl) e10 ?_
        exact bd_iret (pc := 82) hq dX11_voice_82 rfl
      ·
        rw [if_neg c0] at hq
        by_cases c1 : l2 = 1
        ·
          rw [if_pos c1] at hq
          refine st_tin (pc := 46) (tgt := 83) dX11_voice_46 (by rw [c1]; decide) (by rw [c1]; decide) (by rw [c1]; rfl) (by decide) ?_
          refine st_aload (pc := 83) dX11_voice_83 rfl ?_
          refine st_iload_n (pc := 85) dX11_voice_85 rfl ?_
          refine st_aload_n (pc := 86) dX11_voice_86 rfl ?_
          refine bd_getr (pc := 87) hq dX11_voice_87 fl_11_38_11 rfl (fun v9 hq => ?_)
          obtain ⟨q10, e10, hq⟩ := mh_ob hq
          refine S_X11_voice_90 (rest := []) hd (Nat.le_of_ble_eq_true rfl) e10 ?_
          exact bd_iret (pc := 93) hq dX11_voice_93 rfl
        ·
          rw [if_neg c1] at hq
          by_cases c2 : l2 = 2
          ·
            rw [if_pos c2] at hq
            refine st_tin (pc := 46) (tgt := 94) dX11_voice_46 (by rw [c2]; decide) (by rw [c2]; decide) (by rw [c2]; rfl) (by decide) ?_
            refine st_aload (pc := 94) dX11_voice_94 rfl ?_
            refine st_iload_n (pc := 96) dX11_voice_96 rfl ?_
            refine st_aload_n (pc := 97) dX11_voice_97 rfl ?_
            refine bd_getr (pc := 98) hq dX11_voice_98 fl_11_38_11 rfl (fun v9 hq => ?_)
            obtain ⟨q10, e10, hq⟩ := mh_ob hq
            refine S_X11_voice_101 (rest := []) hd (Nat.le_of_ble_eq_true rfl) e10 ?_
            exact bd_iret (pc := 104) hq dX11_voice_104 rfl
          ·
            rw [if_neg c2] at hq
            refine st_tout (pc := 46) (tgt := 105) dX11_voice_46 (by have e0 := lv_neT c0 (k := 0) (a := 0) (by decide); have e1 := lv_neT c1 (k := 1) (a := 1) (by decide); have e2 := lv_neT c2 (k := 2) (a := 2) (by decide); omega) (by decide) ?_
            refine st_aload (pc := 105) dX11_voice_105 rfl ?_
            refine st_iload_n (pc := 107) dX11_voice_107 rfl ?_
            refine st_aload_n (pc := 108) dX11_voice_108 rfl ?_
            refine bd_getr (pc := 109) hq dX11_voice_109 fl_11_38_11 rfl (fun v9 hq => ?_)
            obtain ⟨q10, e10, hq⟩ := mh_ob hq
            refine S_X11_voice_112 (rest := []) hd (Nat.le_of_ble_eq_true rfl) e10 ?_
            refine st_istore (pc := 115) (lv' := [some (.ref l0), some (.int l1), some (.int l2), some (.int l3), some (.ref v6), some (.int q10.1)]) dX11_voice_115 rfl (by decide) rfl ?_
            refine st_aload (pc := 117) dX11_voice_117 rfl ?_
            obtain ⟨q11, e11, hq⟩ := mh_ob hq
            refine S_X11_voice_119 (rest := []) hd (Nat.le_of_ble_eq_true rfl) e11 ?_
            refine bd_if_eq (pc := 122) (tgt := 134) hq dX11_voice_122 (by decide) (fun _ hq => ?_) (fun _ hq => ?_)
            ·
              refine st_iload (pc := 134) dX11_voice_134 rfl ?_
              exact bd_iret (pc := 136) hq dX11_voice_136 rfl
            ·
              refine st_aload_n (pc := 125) dX11_voice_125 rfl ?_
              refine st_bipush (pc := 126) (v := (6 : Int32)) dX11_voice_126 (by decide) ?_
              obtain ⟨⟨hbq12, hkq12⟩, hq⟩ := mh_oi hq
              obtain ⟨q12, e12, hq⟩ := mh_ob hq
              refine st_invV (pc := 128) (ci := 11) (vs := [.int (6 : Int32)]) (rest := []) (st2 := [.int q12.1]) dX11_voice_128 okX11_error (by decide) hkq12 hbq12 wd_326 wd_328 wp_0 pdX11_error rfl rfl rfl rfl (Nat.le_trans (by decide) hd) (Nat.le_of_ble_eq_true rfl) (T_X11_error (Nat.le_refl _) e12) rfl ?_
              refine st_goto (pc := 131) (tgt := 136) dX11_voice_131 (by decide) ?_
              exact bd_iret (pc := 136) hq dX11_voice_136 rfl
-- HoleWater.trace(I)I
theorem dX11_trace_15 : decode cX11_trace 15 = .ok (.aload_n 0, 1) := by decide +kernel
theorem dX11_trace_16 : decode cX11_trace 16 = .ok (.iconst 2, 1) := by decide +kernel
theorem dX11_trace_17 : decode cX11_trace 17 = .ok (.invokevirtual 66, 3) := by decide +kernel
theorem dX11_trace_20 : decode cX11_trace 20 = .ok (.goto 11, 3) := by decide +kernel
theorem dX11_trace_31 : decode cX11_trace 31 = .ok (.ireturn, 1) := by decide +kernel
theorem dX11_trace_0 : decode cX11_trace 0 = .ok (.iload_n 1, 1) := by decide +kernel
theorem dX11_trace_1 : decode cX11_trace 1 = .ok (.ifCond .lt 14, 3) := by decide +kernel
theorem dX11_trace_4 : decode cX11_trace 4 = .ok (.iload_n 1, 1) := by decide +kernel
theorem dX11_trace_5 : decode cX11_trace 5 = .ok (.aload_n 0, 1) := by decide +kernel
theorem dX11_trace_6 : decode cX11_trace 6 = .ok (.getfield 38, 3) := by decide +kernel
theorem dX11_trace_9 : decode cX11_trace 9 = .ok (.getfield 233, 3) := by decide +kernel
theorem dX11_trace_12 : decode cX11_trace 12 = .ok (.if_icmp .lt 11, 3) := by decide +kernel
theorem dX11_trace_23 : decode cX11_trace 23 = .ok (.aload_n 0, 1) := by decide +kernel
theorem dX11_trace_24 : decode cX11_trace 24 = .ok (.getfield 38, 3) := by decide +kernel
theorem dX11_trace_27 : decode cX11_trace 27 = .ok (.iload_n 1, 1) := by decide +kernel
theorem dX11_trace_28 : decode cX11_trace 28 = .ok (.invokevirtual 349, 3) := by decide +kernel
def D_X11_trace_15 (N : Nat) (h : mh_H) (l0 : Nat) : Option (Int32 × mh_H) :=
  kO h 11 l0 <|
  (D_X11_error N h l0 (2 : Int32)).bind fun q1 =>
  some (q1.1, q1.2)
set_option maxHeartbeats 4000000 in
set_option maxRecDepth 100000 in
theorem T_X11_trace_15 {P : mh_E → Prop} {N d : Nat} (hd : 3 ≤ d) {z : (Int32 × mh_H)} {h : mh_H} {l0 : Nat} (hq : D_X11_trace_15 N h l0 = some z) : mh_go P d mX11_trace 15 [some (.ref l0), none] [] h (some (.int z.1)) z.2 := by
  unfold D_X11_trace_15 at hq
  refine st_aload_n (pc := 15) dX11_trace_15 rfl ?_
  refine st_iconst (pc := 16) (v := (2 : Int32)) dX11_trace_16 rfl ?_
  obtain ⟨⟨hbq1, hkq1⟩, hq⟩ := mh_oi hq
  obtain ⟨q1, e1, hq⟩ := mh_ob hq
  refine st_invV (pc := 17) (ci := 11) (vs := [.int (2 : Int32)]) (rest := []) (st2 := [.int q1.1]) dX11_trace_17 okX11_error (by decide) hkq1 hbq1 wd_326 wd_328 wp_0 pdX11_error rfl rfl rfl rfl (Nat.le_trans (by decide) hd) (Nat.le_of_ble_eq_true rfl) (T_X11_error (Nat.le_refl _) e1) rfl ?_
  refine st_goto (pc := 20) (tgt := 31) dX11_trace_20 (by decide) ?_
  exact bd_iret (pc := 31) hq dX11_trace_31 rfl
def D_X11_trace (N : Nat) (h : mh_H) (l0 : Nat) (l1 : Int32) : Option (Int32 × mh_H) :=
  if l1 < 0 then (D_X11_trace_15 N h l0)
  else ((gR h 11 l0 4).bind fun v1 =>
  (gI h 6 v1 1).bind fun v2 =>
  if l1 < v2 then ((gR h 11 l0 4).bind fun v3 =>
  kO h 6 v3 <|
  (D_X6_get N h v3 l1).bind fun q4 =>
  some (q4.1, q4.2))
  else (D_X11_trace_15 N h l0))
set_option maxHeartbeats 4000000 in
set_option maxRecDepth 100000 in
theorem T_X11_trace {P : mh_E → Prop} {N d : Nat} (hd : 3 ≤ d) {z : (Int32 × mh_H)} {h : mh_H} {l0 : Nat} {l1 : Int32} (hq : D_X11_trace N h l0 l1 = some z) : mh_go P d mX11_trace 0 [some (.ref l0), some (.int l1)] [] h (some (.int z.1)) z.2 := by
  unfold D_X11_trace at hq
  refine st_iload_n (pc := 0) dX11_trace_0 rfl ?_
  refine bd_if_lt (pc := 1) (tgt := 15) hq dX11_trace_1 (by decide) (fun _ hq => ?_) (fun _ hq => ?_)
  ·
    refine st_lesS (lv' := [some (.ref l0), none]) ⟨Or.inr rfl, Or.inl rfl, trivial⟩ ?_
    exact T_X11_trace_15 hd hq
  ·
    refine st_iload_n (pc := 4) dX11_trace_4 rfl ?_
    refine st_aload_n (pc := 5) dX11_trace_5 rfl ?_
    refine bd_getr (pc := 6) hq dX11_trace_6 fl_11_38_11 rfl (fun v1 hq => ?_)
    refine bd_geti (pc := 9) hq dX11_trace_9 fl_11_233_6 rfl (fun v2 hq => ?_)
    refine bd_icmp_lt (pc := 12) (tgt := 23) hq dX11_trace_12 (by decide) (fun _ hq => ?_) (fun _ hq => ?_)
    ·
      refine st_aload_n (pc := 23) dX11_trace_23 rfl ?_
      refine bd_getr (pc := 24) hq dX11_trace_24 fl_11_38_11 rfl (fun v3 hq => ?_)
      refine st_iload_n (pc := 27) dX11_trace_27 rfl ?_
      obtain ⟨⟨hbq4, hkq4⟩, hq⟩ := mh_oi hq
      obtain ⟨q4, e4, hq⟩ := mh_ob hq
      refine st_invV (pc := 28) (ci := 6) (vs := [.int l1]) (rest := []) (st2 := [.int q4.1]) dX11_trace_28 okX6_get (by decide) hkq4 hbq4 wd_1110 wd_551 wd_552 pdX6_get rfl rfl rfl rfl (Nat.le_trans (by decide) hd) (Nat.le_of_ble_eq_true rfl) (T_X6_get (Nat.le_refl _) e4) rfl ?_
      exact bd_iret (pc := 31) hq dX11_trace_31 rfl
    ·
      refine st_lesS (lv' := [some (.ref l0), none]) ⟨Or.inr rfl, Or.inl rfl, trivial⟩ ?_
      exact T_X11_trace_15 hd hq
