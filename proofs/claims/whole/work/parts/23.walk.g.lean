-- HoleWater.put(III)I
theorem dX11_put_29 : decode cX11_put 29 = .ok (.aload_n 0, 1) := by decide +kernel
theorem dX11_put_30 : decode cX11_put 30 = .ok (.iconst 1, 1) := by decide +kernel
theorem dX11_put_31 : decode cX11_put 31 = .ok (.invokevirtual 66, 3) := by decide +kernel
theorem dX11_put_34 : decode cX11_put 34 = .ok (.ireturn, 1) := by decide +kernel
theorem dX11_put_0 : decode cX11_put 0 = .ok (.aload_n 0, 1) := by decide +kernel
theorem dX11_put_1 : decode cX11_put 1 = .ok (.getfield 10, 3) := by decide +kernel
theorem dX11_put_4 : decode cX11_put 4 = .ok (.iload_n 1, 1) := by decide +kernel
theorem dX11_put_5 : decode cX11_put 5 = .ok (.invokevirtual 77, 3) := by decide +kernel
theorem dX11_put_8 : decode cX11_put 8 = .ok (.ifCond .eq 21, 3) := by decide +kernel
theorem dX11_put_11 : decode cX11_put 11 = .ok (.iload_n 2, 1) := by decide +kernel
theorem dX11_put_12 : decode cX11_put 12 = .ok (.invokestatic 183, 3) := by decide +kernel
theorem dX11_put_15 : decode cX11_put 15 = .ok (.ifCond .eq 14, 3) := by decide +kernel
theorem dX11_put_18 : decode cX11_put 18 = .ok (.iload_n 3, 1) := by decide +kernel
theorem dX11_put_19 : decode cX11_put 19 = .ok (.iconst 1, 1) := by decide +kernel
theorem dX11_put_20 : decode cX11_put 20 = .ok (.sipush 9999, 3) := by decide +kernel
theorem dX11_put_23 : decode cX11_put 23 = .ok (.invokestatic 62, 3) := by decide +kernel
theorem dX11_put_26 : decode cX11_put 26 = .ok (.ifCond .ne 9, 3) := by decide +kernel
theorem dX11_put_35 : decode cX11_put 35 = .ok (.aload_n 0, 1) := by decide +kernel
theorem dX11_put_36 : decode cX11_put 36 = .ok (.getfield 10, 3) := by decide +kernel
theorem dX11_put_39 : decode cX11_put 39 = .ok (.iload_n 1, 1) := by decide +kernel
theorem dX11_put_40 : decode cX11_put 40 = .ok (.iconst 0, 1) := by decide +kernel
theorem dX11_put_41 : decode cX11_put 41 = .ok (.invokevirtual 112, 3) := by decide +kernel
theorem dX11_put_44 : decode cX11_put 44 = .ok (.ifCond .ne 9, 3) := by decide +kernel
theorem dX11_put_47 : decode cX11_put 47 = .ok (.aload_n 0, 1) := by decide +kernel
theorem dX11_put_48 : decode cX11_put 48 = .ok (.iconst 5, 1) := by decide +kernel
theorem dX11_put_49 : decode cX11_put 49 = .ok (.invokevirtual 66, 3) := by decide +kernel
theorem dX11_put_52 : decode cX11_put 52 = .ok (.ireturn, 1) := by decide +kernel
theorem dX11_put_53 : decode cX11_put 53 = .ok (.aload_n 0, 1) := by decide +kernel
theorem dX11_put_54 : decode cX11_put 54 = .ok (.getfield 10, 3) := by decide +kernel
theorem dX11_put_57 : decode cX11_put 57 = .ok (.getfield 196, 3) := by decide +kernel
theorem dX11_put_60 : decode cX11_put 60 = .ok (.getfield 200, 3) := by decide +kernel
theorem dX11_put_63 : decode cX11_put 63 = .ok (.bipush 40, 2) := by decide +kernel
theorem dX11_put_65 : decode cX11_put 65 = .ok (.if_icmp .lt 9, 3) := by decide +kernel
theorem dX11_put_74 : decode cX11_put 74 = .ok (.aload_n 0, 1) := by decide +kernel
theorem dX11_put_75 : decode cX11_put 75 = .ok (.getfield 10, 3) := by decide +kernel
theorem dX11_put_78 : decode cX11_put 78 = .ok (.iload_n 1, 1) := by decide +kernel
theorem dX11_put_79 : decode cX11_put 79 = .ok (.iload_n 2, 1) := by decide +kernel
theorem dX11_put_80 : decode cX11_put 80 = .ok (.iload_n 3, 1) := by decide +kernel
theorem dX11_put_81 : decode cX11_put 81 = .ok (.invokevirtual 205, 3) := by decide +kernel
theorem dX11_put_84 : decode cX11_put 84 = .ok (.ireturn, 1) := by decide +kernel
theorem dX11_put_68 : decode cX11_put 68 = .ok (.aload_n 0, 1) := by decide +kernel
theorem dX11_put_69 : decode cX11_put 69 = .ok (.iconst 4, 1) := by decide +kernel
theorem dX11_put_70 : decode cX11_put 70 = .ok (.invokevirtual 66, 3) := by decide +kernel
theorem dX11_put_73 : decode cX11_put 73 = .ok (.ireturn, 1) := by decide +kernel
def D_X11_put_29 (N : Nat) (h : mh_H) (l0 : Nat) : Option (Int32 × mh_H) :=
  kO h 11 l0 <|
  (D_X11_error N h l0 (1 : Int32)).bind fun q1 =>
  some (q1.1, q1.2)
set_option maxHeartbeats 4000000 in
set_option maxRecDepth 100000 in
theorem T_X11_put_29 {P : mh_E → Prop} {N d : Nat} (hd : 3 ≤ d) {z : (Int32 × mh_H)} {h : mh_H} {l0 : Nat} (hq : D_X11_put_29 N h l0 = some z) : mh_go P d mX11_put 29 [some (.ref l0), none, none, none] [] h (some (.int z.1)) z.2 := by
  unfold D_X11_put_29 at hq
  refine st_aload_n (pc := 29) dX11_put_29 rfl ?_
  refine st_iconst (pc := 30) (v := (1 : Int32)) dX11_put_30 rfl ?_
  obtain ⟨⟨hbq1, hkq1⟩, hq⟩ := mh_oi hq
  obtain ⟨q1, e1, hq⟩ := mh_ob hq
  refine st_invV (pc := 31) (ci := 11) (vs := [.int (1 : Int32)]) (rest := []) (st2 := [.int q1.1]) dX11_put_31 okX11_error (by decide) hkq1 hbq1 wd_314 wd_316 wp_0 pdX11_error rfl rfl rfl rfl (Nat.le_trans (by decide) hd) (Nat.le_of_ble_eq_true rfl) (T_X11_error (Nat.le_refl _) e1) rfl ?_
  exact bd_iret (pc := 34) hq dX11_put_34 rfl
def D_X11_put (N : Nat) (h : mh_H) (l0 : Nat) (l1 : Int32) (l2 : Int32) (l3 : Int32) : Option (Int32 × mh_H) :=
  (gR h 11 l0 0).bind fun v1 =>
  kO h 10 v1 <|
  (D_X10_isJoint N h v1 l1).bind fun q2 =>
  if q2.1 = 0 then (D_X11_put_29 N q2.2 l0)
  else ((D_X11_isColour N q2.2 l2).bind fun q3 =>
  if q3.1 = 0 then (D_X11_put_29 N q3.2 l0)
  else ((D_X11_within N q3.2 l3 (1 : Int32) (9999 : Int32)).bind fun q4 =>
  if q4.1 = 0 then (D_X11_put_29 N q4.2 l0)
  else ((gR q4.2 11 l0 0).bind fun v5 =>
  kO q4.2 10 v5 <|
  (D_X10_isOf N q4.2 v5 l1 (0 : Int32)).bind fun q6 =>
  if q6.1 = 0 then (kO q6.2 11 l0 <|
  (D_X11_error N q6.2 l0 (5 : Int32)).bind fun q7 =>
  some (q7.1, q7.2))
  else ((gR q6.2 11 l0 0).bind fun v7 =>
  (gR q6.2 10 v7 8).bind fun v8 =>
  (gI q6.2 1 v8 0).bind fun v9 =>
  if v9 < (40 : Int32) then ((gR q6.2 11 l0 0).bind fun v10 =>
  kO q6.2 10 v10 <|
  (D_X10_putIn N q6.2 v10 l1 l2 l3).bind fun q11 =>
  some (q11.1, q11.2))
  else (kO q6.2 11 l0 <|
  (D_X11_error N q6.2 l0 (4 : Int32)).bind fun q10 =>
  some (q10.1, q10.2))))))
set_option maxHeartbeats 4000000 in
set_option maxRecDepth 100000 in
theorem T_X11_put {P : mh_E → Prop} {N d : Nat} (hd : 3 ≤ d) {z : (Int32 × mh_H)} {h : mh_H} {l0 : Nat} {l1 : Int32} {l2 : Int32} {l3 : Int32} (hq : D_X11_put N h l0 l1 l2 l3 = some z) : mh_go P d mX11_put 0 [some (.ref l0), some (.int l1), some (.int l2), some (.int l3)] [] h (some (.int z.1)) z.2 := by
  unfold D_X11_put at hq
  refine st_aload_n (pc := 0) dX11_put_0 rfl ?_
  refine bd_getr (pc := 1) hq dX11_put_1 fl_11_10_11 rfl (fun v1 hq => ?_)
  refine st_iload_n (pc := 4) dX11_put_4 rfl ?_
  obtain ⟨⟨hbq2, hkq2⟩, hq⟩ := mh_oi hq
  obtain ⟨q2, e2, hq⟩ := mh_ob hq
  refine st_invV (pc := 5) (ci := 10) (vs := [.int l1]) (rest := []) (st2 := [.int q2.1]) dX11_put_5 okX10_isJoint (by decide) hkq2 hbq2 wd_327 wd_328 wd_329 pdX10_isJoint rfl rfl rfl rfl (Nat.le_trans (by decide) hd) (Nat.le_of_ble_eq_true rfl) (T_X10_isJoint (Nat.le_refl _) e2) rfl ?_
  refine bd_if_eq (pc := 8) (tgt := 29) hq dX11_put_8 (by decide) (fun _ hq => ?_) (fun _ hq => ?_)
  ·
    refine st_lesS (lv' := [some (.ref l0), none, none, none]) ⟨Or.inr rfl, Or.inl rfl, Or.inl rfl, Or.inl rfl, trivial⟩ ?_
    exact T_X11_put_29 hd hq
  ·
    refine st_iload_n (pc := 11) dX11_put_11 rfl ?_
    obtain ⟨q3, e3, hq⟩ := mh_ob hq
    refine st_invS (pc := 12) (Y := mX11_isColour) (vs := [.int l2]) (rest := []) (st2 := [.int q3.1]) dX11_put_12 okX11_isColour wd_494 wd_495 pdX11_isColour rfl rfl rfl rfl (Nat.le_trans (by decide) hd) (Nat.le_of_ble_eq_true rfl) (T_X11_isColour (Nat.le_refl _) e3) rfl ?_
    refine bd_if_eq (pc := 15) (tgt := 29) hq dX11_put_15 (by decide) (fun _ hq => ?_) (fun _ hq => ?_)
    ·
      refine st_lesS (lv' := [some (.ref l0), none, none, none]) ⟨Or.inr rfl, Or.inl rfl, Or.inl rfl, Or.inl rfl, trivial⟩ ?_
      exact T_X11_put_29 hd hq
    ·
      refine st_iload_n (pc := 18) dX11_put_18 rfl ?_
      refine st_iconst (pc := 19) (v := (1 : Int32)) dX11_put_19 rfl ?_
      refine st_sipush (pc := 20) (v := (9999 : Int32)) dX11_put_20 (by decide) ?_
      obtain ⟨q4, e4, hq⟩ := mh_ob hq
      refine st_invS (pc := 23) (Y := mX11_within) (vs := [.int l3, .int (1 : Int32), .int (9999 : Int32)]) (rest := []) (st2 := [.int q4.1]) dX11_put_23 okX11_within wd_311 wd_312 pdX11_within rfl rfl rfl rfl (Nat.le_trans (by decide) hd) (Nat.le_of_ble_eq_true rfl) (T_X11_within (Nat.le_refl _) e4) rfl ?_
      refine bd_if_ne (pc := 26) (tgt := 35) hq dX11_put_26 (by decide) (fun _ hq => ?_) (fun _ hq => ?_)
      ·
        refine st_lesS (lv' := [some (.ref l0), none, none, none]) ⟨Or.inr rfl, Or.inl rfl, Or.inl rfl, Or.inl rfl, trivial⟩ ?_
        exact T_X11_put_29 hd hq
      ·
        refine st_aload_n (pc := 35) dX11_put_35 rfl ?_
        refine bd_getr (pc := 36) hq dX11_put_36 fl_11_10_11 rfl (fun v5 hq => ?_)
        refine st_iload_n (pc := 39) dX11_put_39 rfl ?_
        refine st_iconst (pc := 40) (v := (0 : Int32)) dX11_put_40 rfl ?_
        obtain ⟨⟨hbq6, hkq6⟩, hq⟩ := mh_oi hq
        obtain ⟨q6, e6, hq⟩ := mh_ob hq
        refine st_invV (pc := 41) (ci := 10) (vs := [.int l1, .int (0 : Int32)]) (rest := []) (st2 := [.int q6.1]) dX11_put_41 okX10_isOf (by decide) hkq6 hbq6 wd_347 wd_343 wd_344 pdX10_isOf rfl rfl rfl rfl (Nat.le_trans (by decide) hd) (Nat.le_of_ble_eq_true rfl) (T_X10_isOf (Nat.le_refl _) e6) rfl ?_
        refine bd_if_ne (pc := 44) (tgt := 53) hq dX11_put_44 (by decide) (fun _ hq => ?_) (fun _ hq => ?_)
        ·
          refine st_aload_n (pc := 47) dX11_put_47 rfl ?_
          refine st_iconst (pc := 48) (v := (5 : Int32)) dX11_put_48 rfl ?_
          obtain ⟨⟨hbq7, hkq7⟩, hq⟩ := mh_oi hq
          obtain ⟨q7, e7, hq⟩ := mh_ob hq
          refine st_invV (pc := 49) (ci := 11) (vs := [.int (5 : Int32)]) (rest := []) (st2 := [.int q7.1]) dX11_put_49 okX11_error (by decide) hkq7 hbq7 wd_314 wd_316 wp_0 pdX11_error rfl rfl rfl rfl (Nat.le_trans (by decide) hd) (Nat.le_of_ble_eq_true rfl) (T_X11_error (Nat.le_refl _) e7) rfl ?_
          exact bd_iret (pc := 52) hq dX11_put_52 rfl
        ·
          refine st_aload_n (pc := 53) dX11_put_53 rfl ?_
          refine bd_getr (pc := 54) hq dX11_put_54 fl_11_10_11 rfl (fun v7 hq => ?_)
          refine bd_getr (pc := 57) hq dX11_put_57 fl_11_196_10 rfl (fun v8 hq => ?_)
          refine bd_geti (pc := 60) hq dX11_put_60 fl_11_200_1 rfl (fun v9 hq => ?_)
          refine st_bipush (pc := 63) (v := (40 : Int32)) dX11_put_63 (by decide) ?_
          refine bd_icmp_lt (pc := 65) (tgt := 74) hq dX11_put_65 (by decide) (fun _ hq => ?_) (fun _ hq => ?_)
          ·
            refine st_aload_n (pc := 74) dX11_put_74 rfl ?_
            refine bd_getr (pc := 75) hq dX11_put_75 fl_11_10_11 rfl (fun v10 hq => ?_)
            refine st_iload_n (pc := 78) dX11_put_78 rfl ?_
            refine st_iload_n (pc := 79) dX11_put_79 rfl ?_
            refine st_iload_n (pc := 80) dX11_put_80 rfl ?_
            obtain ⟨⟨hbq11, hkq11⟩, hq⟩ := mh_oi hq
            obtain ⟨q11, e11, hq⟩ := mh_ob hq
            refine st_invV (pc := 81) (ci := 10) (vs := [.int l1, .int l2, .int l3]) (rest := []) (st2 := [.int q11.1]) dX11_put_81 okX10_putIn (by decide) hkq11 hbq11 wd_708 wd_709 wd_710 pdX10_putIn rfl rfl rfl rfl (Nat.le_trans (by decide) hd) (Nat.le_of_ble_eq_true rfl) (T_X10_putIn (Nat.le_refl _) e11) rfl ?_
            exact bd_iret (pc := 84) hq dX11_put_84 rfl
          ·
            refine st_aload_n (pc := 68) dX11_put_68 rfl ?_
            refine st_iconst (pc := 69) (v := (4 : Int32)) dX11_put_69 rfl ?_
            obtain ⟨⟨hbq10, hkq10⟩, hq⟩ := mh_oi hq
            obtain ⟨q10, e10, hq⟩ := mh_ob hq
            refine st_invV (pc := 70) (ci := 11) (vs := [.int (4 : Int32)]) (rest := []) (st2 := [.int q10.1]) dX11_put_70 okX11_error (by decide) hkq10 hbq10 wd_314 wd_316 wp_0 pdX11_error rfl rfl rfl rfl (Nat.le_trans (by decide) hd) (Nat.le_of_ble_eq_true rfl) (T_X11_error (Nat.le_refl _) e10) rfl ?_
            exact bd_iret (pc := 73) hq dX11_put_73 rfl
-- HoleWater.putIs(II)I
theorem dX11_putIs_27 : decode cX11_putIs 27 = .ok (.aload_n 0, 1) := by decide +kernel
theorem dX11_putIs_28 : decode cX11_putIs 28 = .ok (.iconst 1, 1) := by decide +kernel
theorem dX11_putIs_29 : decode cX11_putIs 29 = .ok (.invokevirtual 66, 3) := by decide +kernel
theorem dX11_putIs_32 : decode cX11_putIs 32 = .ok (.ireturn, 1) := by decide +kernel
theorem dX11_putIs_0 : decode cX11_putIs 0 = .ok (.iload_n 1, 1) := by decide +kernel
theorem dX11_putIs_1 : decode cX11_putIs 1 = .ok (.ifCond .lt 26, 3) := by decide +kernel
theorem dX11_putIs_4 : decode cX11_putIs 4 = .ok (.iload_n 1, 1) := by decide +kernel
theorem dX11_putIs_5 : decode cX11_putIs 5 = .ok (.aload_n 0, 1) := by decide +kernel
theorem dX11_putIs_6 : decode cX11_putIs 6 = .ok (.getfield 10, 3) := by decide +kernel
theorem dX11_putIs_9 : decode cX11_putIs 9 = .ok (.getfield 196, 3) := by decide +kernel
theorem dX11_putIs_12 : decode cX11_putIs 12 = .ok (.getfield 200, 3) := by decide +kernel
theorem dX11_putIs_15 : decode cX11_putIs 15 = .ok (.if_icmp .ge 12, 3) := by decide +kernel
theorem dX11_putIs_18 : decode cX11_putIs 18 = .ok (.iload_n 2, 1) := by decide +kernel
theorem dX11_putIs_19 : decode cX11_putIs 19 = .ok (.iconst 0, 1) := by decide +kernel
theorem dX11_putIs_20 : decode cX11_putIs 20 = .ok (.iconst 3, 1) := by decide +kernel
theorem dX11_putIs_21 : decode cX11_putIs 21 = .ok (.invokestatic 62, 3) := by decide +kernel
theorem dX11_putIs_24 : decode cX11_putIs 24 = .ok (.ifCond .ne 9, 3) := by decide +kernel
theorem dX11_putIs_33 : decode cX11_putIs 33 = .ok (.aload_n 0, 1) := by decide +kernel
theorem dX11_putIs_34 : decode cX11_putIs 34 = .ok (.getfield 10, 3) := by decide +kernel
theorem dX11_putIs_37 : decode cX11_putIs 37 = .ok (.getfield 196, 3) := by decide +kernel
theorem dX11_putIs_40 : decode cX11_putIs 40 = .ok (.getfield 208, 3) := by decide +kernel
theorem dX11_putIs_43 : decode cX11_putIs 43 = .ok (.iload_n 1, 1) := by decide +kernel
theorem dX11_putIs_44 : decode cX11_putIs 44 = .ok (.iconst 4, 1) := by decide +kernel
theorem dX11_putIs_45 : decode cX11_putIs 45 = .ok (.imul, 1) := by decide +kernel
theorem dX11_putIs_46 : decode cX11_putIs 46 = .ok (.iload_n 2, 1) := by decide +kernel
theorem dX11_putIs_47 : decode cX11_putIs 47 = .ok (.iadd, 1) := by decide +kernel
theorem dX11_putIs_48 : decode cX11_putIs 48 = .ok (.iaload, 1) := by decide +kernel
theorem dX11_putIs_49 : decode cX11_putIs 49 = .ok (.ireturn, 1) := by decide +kernel
def D_X11_putIs_27 (N : Nat) (h : mh_H) (l0 : Nat) : Option (Int32 × mh_H) :=
  kO h 11 l0 <|
  (D_X11_error N h l0 (1 : Int32)).bind fun q1 =>
  some (q1.1, q1.2)
set_option maxHeartbeats 4000000 in
set_option maxRecDepth 100000 in
theorem T_X11_putIs_27 {P : mh_E → Prop} {N d : Nat} (hd : 3 ≤ d) {z : (Int32 × mh_H)} {h : mh_H} {l0 : Nat} (hq : D_X11_putIs_27 N h l0 = some z) : mh_go P d mX11_putIs 27 [some (.ref l0), none, none] [] h (some (.int z.1)) z.2 := by
  unfold D_X11_putIs_27 at hq
  refine st_aload_n (pc := 27) dX11_putIs_27 rfl ?_
  refine st_iconst (pc := 28) (v := (1 : Int32)) dX11_putIs_28 rfl ?_
  obtain ⟨⟨hbq1, hkq1⟩, hq⟩ := mh_oi hq
  obtain ⟨q1, e1, hq⟩ := mh_ob hq
  refine st_invV (pc := 29) (ci := 11) (vs := [.int (1 : Int32)]) (rest := []) (st2 := [.int q1.1]) dX11_putIs_29 okX11_error (by decide) hkq1 hbq1 wd_314 wd_316 wp_0 pdX11_error rfl rfl rfl rfl (Nat.le_trans (by decide) hd) (Nat.le_of_ble_eq_true rfl) (T_X11_error (Nat.le_refl _) e1) rfl ?_
  exact bd_iret (pc := 32) hq dX11_putIs_32 rfl
def D_X11_putIs (N : Nat) (h : mh_H) (l0 : Nat) (l1 : Int32) (l2 : Int32) : Option (Int32 × mh_H) :=
  if l1 < 0 then (D_X11_putIs_27 N h l0)
  else ((gR h 11 l0 0).bind fun v1 =>
  (gR h 10 v1 8).bind fun v2 =>
  (gI h 1 v2 0).bind fun v3 =>
  if v3 ≤ l1 then (D_X11_putIs_27 N h l0)
  else ((D_X11_within N h l2 (0 : Int32) (3 : Int32)).bind fun q4 =>
  if q4.1 = 0 then (D_X11_putIs_27 N q4.2 l0)
  else ((gR q4.2 11 l0 0).bind fun v5 =>
  (gR q4.2 10 v5 8).bind fun v6 =>
  (gR q4.2 1 v6 2).bind fun v7 =>
  (aI q4.2 v7 ((l1 * (4 : Int32)) + l2)).bind fun v8 =>
  some (v8, q4.2))))
set_option maxHeartbeats 4000000 in
set_option maxRecDepth 100000 in
theorem T_X11_putIs {P : mh_E → Prop} {N d : Nat} (hd : 3 ≤ d) {z : (Int32 × mh_H)} {h : mh_H} {l0 : Nat} {l1 : Int32} {l2 : Int32} (hq : D_X11_putIs N h l0 l1 l2 = some z) : mh_go P d mX11_putIs 0 [some (.ref l0), some (.int l1), some (.int l2)] [] h (some (.int z.1)) z.2 := by
  unfold D_X11_putIs at hq
  refine st_iload_n (pc := 0) dX11_putIs_0 rfl ?_
  refine bd_if_lt (pc := 1) (tgt := 27) hq dX11_putIs_1 (by decide) (fun _ hq => ?_) (fun _ hq => ?_)
  ·
    refine st_lesS (lv' := [some (.ref l0), none, none]) ⟨Or.inr rfl, Or.inl rfl, Or.inl rfl, trivial⟩ ?_
    exact T_X11_putIs_27 hd hq
  ·
    refine st_iload_n (pc := 4) dX11_putIs_4 rfl ?_
    refine st_aload_n (pc := 5) dX11_putIs_5 rfl ?_
    refine bd_getr (pc := 6) hq dX11_putIs_6 fl_11_10_11 rfl (fun v1 hq => ?_)
    refine bd_getr (pc := 9) hq dX11_putIs_9 fl_11_196_10 rfl (fun v2 hq => ?_)
    refine bd_geti (pc := 12) hq dX11_putIs_12 fl_11_200_1 rfl (fun v3 hq => ?_)
    refine bd_icmp_ge (pc := 15) (tgt := 27) hq dX11_putIs_15 (by decide) (fun _ hq => ?_) (fun _ hq => ?_)
    ·
      refine st_lesS (lv' := [some (.ref l0), none, none]) ⟨Or.inr rfl, Or.inl rfl, Or.inl rfl, trivial⟩ ?_
      exact T_X11_putIs_27 hd hq
    ·
      refine st_iload_n (pc := 18) dX11_putIs_18 rfl ?_
      refine st_iconst (pc := 19) (v := (0 : Int32)) dX11_putIs_19 rfl ?_
      refine st_iconst (pc := 20) (v := (3 : Int32)) dX11_putIs_20 rfl ?_
      obtain ⟨q4, e4, hq⟩ := mh_ob hq
      refine st_invS (pc := 21) (Y := mX11_within) (vs := [.int l2, .int (0 : Int32), .int (3 : Int32)]) (rest := []) (st2 := [.int q4.1]) dX11_putIs_21 okX11_within wd_311 wd_312 pdX11_within rfl rfl rfl rfl (Nat.le_trans (by decide) hd) (Nat.le_of_ble_eq_true rfl) (T_X11_within (Nat.le_refl _) e4) rfl ?_
      refine bd_if_ne (pc := 24) (tgt := 33) hq dX11_putIs_24 (by decide) (fun _ hq => ?_) (fun _ hq => ?_)
      ·
        refine st_lesS (lv' := [some (.ref l0), none, none]) ⟨Or.inr rfl, Or.inl rfl, Or.inl rfl, trivial⟩ ?_
        exact T_X11_putIs_27 hd hq
      ·
        refine st_aload_n (pc := 33) dX11_putIs_33 rfl ?_
        refine bd_getr (pc := 34) hq dX11_putIs_34 fl_11_10_11 rfl (fun v5 hq => ?_)
        refine bd_getr (pc := 37) hq dX11_putIs_37 fl_11_196_10 rfl (fun v6 hq => ?_)
        refine bd_getr (pc := 40) hq dX11_putIs_40 fl_11_208_1 rfl (fun v7 hq => ?_)
        refine st_iload_n (pc := 43) dX11_putIs_43 rfl ?_
        refine st_iconst (pc := 44) (v := (4 : Int32)) dX11_putIs_44 rfl ?_
        refine st_imul (pc := 45) dX11_putIs_45 ?_
        refine st_iload_n (pc := 46) dX11_putIs_46 rfl ?_
        refine st_iadd (pc := 47) dX11_putIs_47 ?_
        refine bd_iald (pc := 48) hq dX11_putIs_48 (fun v8 hq => ?_)
        exact bd_iret (pc := 49) hq dX11_putIs_49 rfl
-- HoleWater.isSheet(I)Z
theorem dX11_isSheet_0 : decode cX11_isSheet 0 = .ok (.iload_n 0, 1) := by decide +kernel
theorem dX11_isSheet_1 : decode cX11_isSheet 1 = .ok (.iconst 0, 1) := by decide +kernel
theorem dX11_isSheet_2 : decode cX11_isSheet 2 = .ok (.iconst 3, 1) := by decide +kernel
theorem dX11_isSheet_3 : decode cX11_isSheet 3 = .ok (.invokestatic 62, 3) := by decide +kernel
theorem dX11_isSheet_6 : decode cX11_isSheet 6 = .ok (.ireturn, 1) := by decide +kernel
def D_X11_isSheet (N : Nat) (h : mh_H) (l0 : Int32) : Option (Int32 × mh_H) :=
  (D_X11_within N h l0 (0 : Int32) (3 : Int32)).bind fun q1 =>
  zB q1.1 q1.2
set_option maxHeartbeats 4000000 in
set_option maxRecDepth 100000 in
theorem T_X11_isSheet {P : mh_E → Prop} {N d : Nat} (hd : 2 ≤ d) {z : (Int32 × mh_H)} {h : mh_H} {l0 : Int32} (hq : D_X11_isSheet N h l0 = some z) : mh_go P d mX11_isSheet 0 [some (.int l0)] [] h (some (.int z.1)) z.2 := by
  unfold D_X11_isSheet at hq
  refine st_iload_n (pc := 0) dX11_isSheet_0 rfl ?_
  refine st_iconst (pc := 1) (v := (0 : Int32)) dX11_isSheet_1 rfl ?_
  refine st_iconst (pc := 2) (v := (3 : Int32)) dX11_isSheet_2 rfl ?_
  obtain ⟨q1, e1, hq⟩ := mh_ob hq
  refine st_invS (pc := 3) (Y := mX11_within) (vs := [.int l0, .int (0 : Int32), .int (3 : Int32)]) (rest := []) (st2 := [.int q1.1]) dX11_isSheet_3 okX11_within wd_311 wd_312 pdX11_within rfl rfl rfl rfl (Nat.le_trans (by decide) hd) (Nat.le_of_ble_eq_true rfl) (T_X11_within (Nat.le_refl _) e1) rfl ?_
  exact bd_zret (pc := 6) hq dX11_isSheet_6 rfl
-- HoleWater.pours(IIIII)I
theorem dX11_pours_36 : decode cX11_pours 36 = .ok (.aload_n 0, 1) := by decide +kernel
theorem dX11_pours_37 : decode cX11_pours 37 = .ok (.iconst 1, 1) := by decide +kernel
theorem dX11_pours_38 : decode cX11_pours 38 = .ok (.invokevirtual 66, 3) := by decide +kernel
theorem dX11_pours_41 : decode cX11_pours 41 = .ok (.ireturn, 1) := by decide +kernel
theorem dX11_pours_179 : decode cX11_pours 179 = .ok (.iinc 7 1, 3) := by decide +kernel
theorem dX11_pours_182 : decode cX11_pours 182 = .ok (.goto (-101), 3) := by decide +kernel
theorem dX11_pours_81 : decode cX11_pours 81 = .ok (.iload 7, 2) := by decide +kernel
theorem dX11_pours_83 : decode cX11_pours 83 = .ok (.iload 5, 2) := by decide +kernel
theorem dX11_pours_85 : decode cX11_pours 85 = .ok (.if_icmp .ge 100, 3) := by decide +kernel
theorem dX11_pours_185 : decode cX11_pours 185 = .ok (.iload 6, 2) := by decide +kernel
theorem dX11_pours_187 : decode cX11_pours 187 = .ok (.ireturn, 1) := by decide +kernel
theorem dX11_pours_88 : decode cX11_pours 88 = .ok (.iload 4, 2) := by decide +kernel
theorem dX11_pours_90 : decode cX11_pours 90 = .ok (.iload 7, 2) := by decide +kernel
theorem dX11_pours_92 : decode cX11_pours 92 = .ok (.iadd, 1) := by decide +kernel
theorem dX11_pours_93 : decode cX11_pours 93 = .ok (.iconst 0, 1) := by decide +kernel
theorem dX11_pours_94 : decode cX11_pours 94 = .ok (.aload_n 0, 1) := by decide +kernel
theorem dX11_pours_95 : decode cX11_pours 95 = .ok (.getfield 49, 3) := by decide +kernel
theorem dX11_pours_98 : decode cX11_pours 98 = .ok (.iload_n 3, 1) := by decide +kernel
theorem dX11_pours_99 : decode cX11_pours 99 = .ok (.iaload, 1) := by decide +kernel
theorem dX11_pours_100 : decode cX11_pours 100 = .ok (.iconst 1, 1) := by decide +kernel
theorem dX11_pours_101 : decode cX11_pours 101 = .ok (.isub, 1) := by decide +kernel
theorem dX11_pours_102 : decode cX11_pours 102 = .ok (.invokestatic 62, 3) := by decide +kernel
theorem dX11_pours_105 : decode cX11_pours 105 = .ok (.ifCond .ne 9, 3) := by decide +kernel
theorem dX11_pours_108 : decode cX11_pours 108 = .ok (.aload_n 0, 1) := by decide +kernel
theorem dX11_pours_109 : decode cX11_pours 109 = .ok (.iconst 1, 1) := by decide +kernel
theorem dX11_pours_110 : decode cX11_pours 110 = .ok (.invokevirtual 66, 3) := by decide +kernel
theorem dX11_pours_113 : decode cX11_pours 113 = .ok (.ireturn, 1) := by decide +kernel
theorem dX11_pours_114 : decode cX11_pours 114 = .ok (.aload_n 0, 1) := by decide +kernel
theorem dX11_pours_115 : decode cX11_pours 115 = .ok (.getfield 52, 3) := by decide +kernel
theorem dX11_pours_118 : decode cX11_pours 118 = .ok (.iload_n 3, 1) := by decide +kernel
theorem dX11_pours_119 : decode cX11_pours 119 = .ok (.bipush 24, 2) := by decide +kernel
theorem dX11_pours_121 : decode cX11_pours 121 = .ok (.imul, 1) := by decide +kernel
theorem dX11_pours_122 : decode cX11_pours 122 = .ok (.iload 4, 2) := by decide +kernel
theorem dX11_pours_124 : decode cX11_pours 124 = .ok (.iadd, 1) := by decide +kernel
theorem dX11_pours_125 : decode cX11_pours 125 = .ok (.iload 7, 2) := by decide +kernel
theorem dX11_pours_127 : decode cX11_pours 127 = .ok (.iadd, 1) := by decide +kernel
theorem dX11_pours_128 : decode cX11_pours 128 = .ok (.iaload, 1) := by decide +kernel
theorem dX11_pours_129 : decode cX11_pours 129 = .ok (.istore 8, 2) := by decide +kernel
theorem dX11_pours_131 : decode cX11_pours 131 = .ok (.iload 8, 2) := by decide +kernel
theorem dX11_pours_133 : decode cX11_pours 133 = .ok (.iconst 1, 1) := by decide +kernel
theorem dX11_pours_134 : decode cX11_pours 134 = .ok (.sipush 9999, 3) := by decide +kernel
theorem dX11_pours_137 : decode cX11_pours 137 = .ok (.invokestatic 62, 3) := by decide +kernel
theorem dX11_pours_140 : decode cX11_pours 140 = .ok (.ifCond .eq 39, 3) := by decide +kernel
theorem dX11_pours_143 : decode cX11_pours 143 = .ok (.aload_n 0, 1) := by decide +kernel
theorem dX11_pours_144 : decode cX11_pours 144 = .ok (.getfield 10, 3) := by decide +kernel
theorem dX11_pours_147 : decode cX11_pours 147 = .ok (.getfield 196, 3) := by decide +kernel
theorem dX11_pours_150 : decode cX11_pours 150 = .ok (.getfield 200, 3) := by decide +kernel
theorem dX11_pours_153 : decode cX11_pours 153 = .ok (.bipush 40, 2) := by decide +kernel
theorem dX11_pours_155 : decode cX11_pours 155 = .ok (.if_icmp .lt 9, 3) := by decide +kernel
theorem dX11_pours_164 : decode cX11_pours 164 = .ok (.aload_n 0, 1) := by decide +kernel
theorem dX11_pours_165 : decode cX11_pours 165 = .ok (.getfield 10, 3) := by decide +kernel
theorem dX11_pours_168 : decode cX11_pours 168 = .ok (.iload_n 1, 1) := by decide +kernel
theorem dX11_pours_169 : decode cX11_pours 169 = .ok (.iload_n 2, 1) := by decide +kernel
theorem dX11_pours_170 : decode cX11_pours 170 = .ok (.iload 8, 2) := by decide +kernel
theorem dX11_pours_172 : decode cX11_pours 172 = .ok (.invokevirtual 205, 3) := by decide +kernel
theorem dX11_pours_175 : decode cX11_pours 175 = .ok (.pop, 1) := by decide +kernel
theorem dX11_pours_176 : decode cX11_pours 176 = .ok (.iinc 6 1, 3) := by decide +kernel
theorem dX11_pours_158 : decode cX11_pours 158 = .ok (.aload_n 0, 1) := by decide +kernel
theorem dX11_pours_159 : decode cX11_pours 159 = .ok (.iconst 4, 1) := by decide +kernel
theorem dX11_pours_160 : decode cX11_pours 160 = .ok (.invokevirtual 66, 3) := by decide +kernel
theorem dX11_pours_163 : decode cX11_pours 163 = .ok (.ireturn, 1) := by decide +kernel
theorem dX11_pours_0 : decode cX11_pours 0 = .ok (.aload_n 0, 1) := by decide +kernel
theorem dX11_pours_1 : decode cX11_pours 1 = .ok (.getfield 10, 3) := by decide +kernel
theorem dX11_pours_4 : decode cX11_pours 4 = .ok (.iload_n 1, 1) := by decide +kernel
theorem dX11_pours_5 : decode cX11_pours 5 = .ok (.invokevirtual 77, 3) := by decide +kernel
theorem dX11_pours_8 : decode cX11_pours 8 = .ok (.ifCond .eq 28, 3) := by decide +kernel
theorem dX11_pours_11 : decode cX11_pours 11 = .ok (.iload_n 2, 1) := by decide +kernel
theorem dX11_pours_12 : decode cX11_pours 12 = .ok (.invokestatic 183, 3) := by decide +kernel
theorem dX11_pours_15 : decode cX11_pours 15 = .ok (.ifCond .eq 21, 3) := by decide +kernel
theorem dX11_pours_18 : decode cX11_pours 18 = .ok (.iload_n 3, 1) := by decide +kernel
theorem dX11_pours_19 : decode cX11_pours 19 = .ok (.invokestatic 211, 3) := by decide +kernel
theorem dX11_pours_22 : decode cX11_pours 22 = .ok (.ifCond .eq 14, 3) := by decide +kernel
theorem dX11_pours_25 : decode cX11_pours 25 = .ok (.iload 5, 2) := by decide +kernel
theorem dX11_pours_27 : decode cX11_pours 27 = .ok (.iconst 0, 1) := by decide +kernel
theorem dX11_pours_28 : decode cX11_pours 28 = .ok (.bipush 9, 2) := by decide +kernel
theorem dX11_pours_30 : decode cX11_pours 30 = .ok (.invokestatic 62, 3) := by decide +kernel
theorem dX11_pours_33 : decode cX11_pours 33 = .ok (.ifCond .ne 9, 3) := by decide +kernel
theorem dX11_pours_42 : decode cX11_pours 42 = .ok (.aload_n 0, 1) := by decide +kernel
theorem dX11_pours_43 : decode cX11_pours 43 = .ok (.getfield 10, 3) := by decide +kernel
theorem dX11_pours_46 : decode cX11_pours 46 = .ok (.iload_n 1, 1) := by decide +kernel
theorem dX11_pours_47 : decode cX11_pours 47 = .ok (.iconst 0, 1) := by decide +kernel
theorem dX11_pours_48 : decode cX11_pours 48 = .ok (.invokevirtual 112, 3) := by decide +kernel
theorem dX11_pours_51 : decode cX11_pours 51 = .ok (.ifCond .ne 9, 3) := by decide +kernel
theorem dX11_pours_54 : decode cX11_pours 54 = .ok (.aload_n 0, 1) := by decide +kernel
theorem dX11_pours_55 : decode cX11_pours 55 = .ok (.iconst 5, 1) := by decide +kernel
theorem dX11_pours_56 : decode cX11_pours 56 = .ok (.invokevirtual 66, 3) := by decide +kernel
theorem dX11_pours_59 : decode cX11_pours 59 = .ok (.ireturn, 1) := by decide +kernel
theorem dX11_pours_60 : decode cX11_pours 60 = .ok (.aload_n 0, 1) := by decide +kernel
theorem dX11_pours_61 : decode cX11_pours 61 = .ok (.getfield 46, 3) := by decide +kernel
theorem dX11_pours_64 : decode cX11_pours 64 = .ok (.iload_n 3, 1) := by decide +kernel
theorem dX11_pours_65 : decode cX11_pours 65 = .ok (.iaload, 1) := by decide +kernel
theorem dX11_pours_66 : decode cX11_pours 66 = .ok (.ifCond .ne 9, 3) := by decide +kernel
theorem dX11_pours_69 : decode cX11_pours 69 = .ok (.aload_n 0, 1) := by decide +kernel
theorem dX11_pours_70 : decode cX11_pours 70 = .ok (.iconst 2, 1) := by decide +kernel
theorem dX11_pours_71 : decode cX11_pours 71 = .ok (.invokevirtual 66, 3) := by decide +kernel
theorem dX11_pours_74 : decode cX11_pours 74 = .ok (.ireturn, 1) := by decide +kernel
theorem dX11_pours_75 : decode cX11_pours 75 = .ok (.iconst 0, 1) := by decide +kernel
theorem dX11_pours_76 : decode cX11_pours 76 = .ok (.istore 6, 2) := by decide +kernel
theorem dX11_pours_78 : decode cX11_pours 78 = .ok (.iconst 0, 1) := by decide +kernel
theorem dX11_pours_79 : decode cX11_pours 79 = .ok (.istore 7, 2) := by decide +kernel
def D_X11_pours_36 (N : Nat) (h : mh_H) (l0 : Nat) : Option (Int32 × mh_H) :=
  kO h 11 l0 <|
  (D_X11_error N h l0 (1 : Int32)).bind fun q1 =>
  some (q1.1, q1.2)
set_option maxHeartbeats 4000000 in
set_option maxRecDepth 100000 in
theorem T_X11_pours_36 {P : mh_E → Prop} {N d : Nat} (hd : 3 ≤ d) {z : (Int32 × mh_H)} {h : mh_H} {l0 : Nat} (hq : D_X11_pours_36 N h l0 = some z) : mh_go P d mX11_pours 36 [some (.ref l0), none, none, none, none, none, none, none, none] [] h (some (.int z.1)) z.2 := by
  unfold D_X11_pours_36 at hq
  refine st_aload_n (pc := 36) dX11_pours_36 rfl ?_
  refine st_iconst (pc := 37) (v := (1 : Int32)) dX11_pours_37 rfl ?_
  obtain ⟨⟨hbq1, hkq1⟩, hq⟩ := mh_oi hq
  obtain ⟨q1, e1, hq⟩ := mh_ob hq
  refine st_invV (pc := 38) (ci := 11) (vs := [.int (1 : Int32)]) (rest := []) (st2 := [.int q1.1]) dX11_pours_38 okX11_error (by decide) hkq1 hbq1 wd_314 wd_316 wp_0 pdX11_error rfl rfl rfl rfl (Nat.le_trans (by decide) hd) (Nat.le_of_ble_eq_true rfl) (T_X11_error (Nat.le_refl _) e1) rfl ?_
  exact bd_iret (pc := 41) hq dX11_pours_41 rfl
def D_X11_pours_179 (N : Nat) (k81 : mh_H → Nat → Int32 → Int32 → Int32 → Int32 → Int32 → Int32 → Int32 → Option (Int32 × mh_H)) (h : mh_H) (l0 : Nat) (l1 : Int32) (l2 : Int32) (l3 : Int32) (l4 : Int32) (l5 : Int32) (l6 : Int32) (l7 : Int32) : Option (Int32 × mh_H) :=
  k81 h l0 l1 l2 l3 l4 l5 l6 (l7 + Int32.ofInt (1))
set_option maxHeartbeats 4000000 in
set_option maxRecDepth 100000 in
theorem T_X11_pours_179 {P : mh_E → Prop} {N d : Nat} (hd : 3 ≤ d) {z : (Int32 × mh_H)} {k81 : mh_H → Nat → Int32 → Int32 → Int32 → Int32 → Int32 → Int32 → Int32 → Option (Int32 × mh_H)} (hk81 : ∀ (h : mh_H) (l0 : Nat) (l1 : Int32) (l2 : Int32) (l3 : Int32) (l4 : Int32) (l5 : Int32) (l6 : Int32) (l7 : Int32), k81 h l0 l1 l2 l3 l4 l5 l6 l7 = some z → mh_go P d mX11_pours 81 [some (.ref l0), some (.int l1), some (.int l2), some (.int l3), some (.int l4), some (.int l5), some (.int l6), some (.int l7), none] [] h (some (.int z.1)) z.2) {h : mh_H} {l0 : Nat} {l1 : Int32} {l2 : Int32} {l3 : Int32} {l4 : Int32} {l5 : Int32} {l6 : Int32} {l7 : Int32} (hq : D_X11_pours_179 N k81 h l0 l1 l2 l3 l4 l5 l6 l7 = some z) : mh_go P d mX11_pours 179 [some (.ref l0), some (.int l1), some (.int l2), some (.int l3), some (.int l4), some (.int l5), some (.int l6), some (.int l7), none] [] h (some (.int z.1)) z.2 := by
  unfold D_X11_pours_179 at hq
  refine st_iinc (pc := 179) (lv' := [some (.ref l0), some (.int l1), some (.int l2), some (.int l3), some (.int l4), some (.int l5), some (.int l6), some (.int (l7 + Int32.ofInt (1))), none]) dX11_pours_179 rfl rfl (by decide) rfl ?_
  refine st_goto (pc := 182) (tgt := 81) dX11_pours_182 (by decide) ?_
  exact hk81 _ _ _ _ _ _ _ _ _ hq
def D_X11_pours_81 (N : Nat) : Nat → mh_H → Nat → Int32 → Int32 → Int32 → Int32 → Int32 → Int32 → Int32 → Option (Int32 × mh_H)
  | 0, _, _, _, _, _, _, _, _, _ => none
  | F + 1, h, l0, l1, l2, l3, l4, l5, l6, l7 =>
    if l5 ≤ l7 then (some (l6, h))
    else ((gR h 11 l0 7).bind fun v1 =>
    (aI h v1 l3).bind fun v2 =>
    (D_X11_within N h (l4 + l7) (0 : Int32) (v2 - (1 : Int32))).bind fun q3 =>
    if q3.1 = 0 then (kO q3.2 11 l0 <|
    (D_X11_error N q3.2 l0 (1 : Int32)).bind fun q4 =>
    some (q4.1, q4.2))
    else ((gR q3.2 11 l0 8).bind fun v4 =>
    (aI q3.2 v4 (((l3 * (24 : Int32)) + l4) + l7)).bind fun v5 =>
    (D_X11_within N q3.2 v5 (1 : Int32) (9999 : Int32)).bind fun q6 =>
    if q6.1 = 0 then (D_X11_pours_179 N (D_X11_pours_81 N F) q6.2 l0 l1 l2 l3 l4 l5 l6 l7)
    else ((gR q6.2 11 l0 0).bind fun v7 =>
    (gR q6.2 10 v7 8).bind fun v8 =>
    (gI q6.2 1 v8 0).bind fun v9 =>
    if v9 < (40 : Int32) then ((gR q6.2 11 l0 0).bind fun v10 =>
    kO q6.2 10 v10 <|
    (D_X10_putIn N q6.2 v10 l1 l2 v5).bind fun q11 =>
    D_X11_pours_179 N (D_X11_pours_81 N F) q11.2 l0 l1 l2 l3 l4 l5 (l6 + Int32.ofInt (1)) l7)
    else (kO q6.2 11 l0 <|
    (D_X11_error N q6.2 l0 (4 : Int32)).bind fun q10 =>
    some (q10.1, q10.2)))))
set_option maxHeartbeats 4000000 in
set_option maxRecDepth 100000 in
theorem T_X11_pours_81 {P : mh_E → Prop} {N d : Nat} (hd : 3 ≤ d) {z : (Int32 × mh_H)} : ∀ (F : Nat) (h : mh_H) (l0 : Nat) (l1 : Int32) (l2 : Int32) (l3 : Int32) (l4 : Int32) (l5 : Int32) (l6 : Int32) (l7 : Int32), D_X11_pours_81 N F h l0 l1 l2 l3 l4 l5 l6 l7 = some z → mh_go P d mX11_pours 81 [some (.ref l0), some (.int l1), some (.int l2), some (.int l3), some (.int l4), some (.int l5), some (.int l6), some (.int l7), none] [] h (some (.int z.1)) z.2 := by
  intro F
  induction F with
  | zero => intro h l0 l1 l2 l3 l4 l5 l6 l7 hq; rw [D_X11_pours_81] at hq; cases hq
  | succ F ih =>
    intro h l0 l1 l2 l3 l4 l5 l6 l7 hq
    rw [D_X11_pours_81] at hq
    refine st_iload (pc := 81) dX11_pours_81 rfl ?_
    refine st_iload (pc := 83) dX11_pours_83 rfl ?_
    refine bd_icmp_ge (pc := 85) (tgt := 185) hq dX11_pours_85 (by decide) (fun _ hq => ?_) (fun _ hq => ?_)
    ·
      refine st_iload (pc := 185) dX11_pours_185 rfl ?_
      exact bd_iret (pc := 187) hq dX11_pours_187 rfl
    ·
      refine st_iload (pc := 88) dX11_pours_88 rfl ?_
      refine st_iload (pc := 90) dX11_pours_90 rfl ?_
      refine st_iadd (pc := 92) dX11_pours_92 ?_
      refine st_iconst (pc := 93) (v := (0 : Int32)) dX11_pours_93 rfl ?_
      refine st_aload_n (pc := 94) dX11_pours_94 rfl ?_
      refine bd_getr (pc := 95) hq dX11_pours_95 fl_11_49_11 rfl (fun v1 hq => ?_)
      refine st_iload_n (pc := 98) dX11_pours_98 rfl ?_
      refine bd_iald (pc := 99) hq dX11_pours_99 (fun v2 hq => ?_)
      refine st_iconst (pc := 100) (v := (1 : Int32)) dX11_pours_100 rfl ?_
      refine st_isub (pc := 101) dX11_pours_101 ?_
      obtain ⟨q3, e3, hq⟩ := mh_ob hq
      refine st_invS (pc := 102) (Y := mX11_within) (vs := [.int (l4 + l7), .int (0 : Int32), .int (v2 - (1 : Int32))]) (rest := []) (st2 := [.int q3.1]) dX11_pours_102 okX11_within wd_311 wd_312 pdX11_within rfl rfl rfl rfl (Nat.le_trans (by decide) hd) (Nat.le_of_ble_eq_true rfl) (T_X11_within (Nat.le_refl _) e3) rfl ?_
      refine bd_if_ne (pc := 105) (tgt := 114) hq dX11_pours_105 (by decide) (fun _ hq => ?_) (fun _ hq => ?_)
      ·
        refine st_aload_n (pc := 108) dX11_pours_108 rfl ?_
        refine st_iconst (pc := 109) (v := (1 : Int32)) dX11_pours_109 rfl ?_
        obtain ⟨⟨hbq4, hkq4⟩, hq⟩ := mh_oi hq
        obtain ⟨q4, e4, hq⟩ := mh_ob hq
        refine st_invV (pc := 110) (ci := 11) (vs := [.int (1 : Int32)]) (rest := []) (st2 := [.int q4.1]) dX11_pours_110 okX11_error (by decide) hkq4 hbq4 wd_314 wd_316 wp_0 pdX11_error rfl rfl rfl rfl (Nat.le_trans (by decide) hd) (Nat.le_of_ble_eq_true rfl) (T_X11_error (Nat.le_refl _) e4) rfl ?_
        exact bd_iret (pc := 113) hq dX11_pours_113 rfl
      ·
        refine st_aload_n (pc := 114) dX11_pours_114 rfl ?_
        refine bd_getr (pc := 115) hq dX11_pours_115 fl_11_52_11 rfl (fun v4 hq => ?_)
        refine st_iload_n (pc := 118) dX11_pours_118 rfl ?_
        refine st_bipush (pc := 119) (v := (24 : Int32)) dX11_pours_119 (by decide) ?_
        refine st_imul (pc := 121) dX11_pours_121 ?_
        refine st_iload (pc := 122) dX11_pours_122 rfl ?_
        refine st_iadd (pc := 124) dX11_pours_124 ?_
        refine st_iload (pc := 125) dX11_pours_125 rfl ?_
        refine st_iadd (pc := 127) dX11_pours_127 ?_
        refine bd_iald (pc := 128) hq dX11_pours_128 (fun v5 hq => ?_)
        refine st_istore (pc := 129) (lv' := [some (.ref l0), some (.int l1), some (.int l2), some (.int l3), some (.int l4), some (.int l5), some (.int l6), some (.int l7), some (.int v5)]) dX11_pours_129 rfl (by decide) rfl ?_
        refine st_iload (pc := 131) dX11_pours_131 rfl ?_
        refine st_iconst (pc := 133) (v := (1 : Int32)) dX11_pours_133 rfl ?_
        refine st_sipush (pc := 134) (v := (9999 : Int32)) dX11_pours_134 (by decide) ?_
        obtain ⟨q6, e6, hq⟩ := mh_ob hq
        refine st_invS (pc := 137) (Y := mX11_within) (vs := [.int v5, .int (1 : Int32), .int (9999 : Int32)]) (rest := []) (st2 := [.int q6.1]) dX11_pours_137 okX11_within wd_311 wd_312 pdX11_within rfl rfl rfl rfl (Nat.le_trans (by decide) hd) (Nat.le_of_ble_eq_true rfl) (T_X11_within (Nat.le_refl _) e6) rfl ?_
        refine bd_if_eq (pc := 140) (tgt := 179) hq dX11_pours_140 (by decide) (fun _ hq => ?_) (fun _ hq => ?_)
        ·
          refine st_lesS (lv' := [some (.ref l0), some (.int l1), some (.int l2), some (.int l3), some (.int l4), some (.int l5), some (.int l6), some (.int l7), none]) ⟨Or.inr rfl, Or.inr rfl, Or.inr rfl, Or.inr rfl, Or.inr rfl, Or.inr rfl, Or.inr rfl, Or.inr rfl, Or.inl rfl, trivial⟩ ?_
          exact T_X11_pours_179 hd ih hq
        ·
          refine st_aload_n (pc := 143) dX11_pours_143 rfl ?_
          refine bd_getr (pc := 144) hq dX11_pours_144 fl_11_10_11 rfl (fun v7 hq => ?_)
          refine bd_getr (pc := 147) hq dX11_pours_147 fl_11_196_10 rfl (fun v8 hq => ?_)
          refine bd_geti (pc := 150) hq dX11_pours_150 fl_11_200_1 rfl (fun v9 hq => ?_)
          refine st_bipush (pc := 153) (v := (40 : Int32)) dX11_pours_153 (by decide) ?_
          refine bd_icmp_lt (pc := 155) (tgt := 164) hq dX11_pours_155 (by decide) (fun _ hq => ?_) (fun _ hq => ?_)
          ·
            refine st_aload_n (pc := 164) dX11_pours_164 rfl ?_
            refine bd_getr (pc := 165) hq dX11_pours_165 fl_11_10_11 rfl (fun v10 hq => ?_)
            refine st_iload_n (pc := 168) dX11_pours_168 rfl ?_
            refine st_iload_n (pc := 169) dX11_pours_169 rfl ?_
            refine st_iload (pc := 170) dX11_pours_170 rfl ?_
            obtain ⟨⟨hbq11, hkq11⟩, hq⟩ := mh_oi hq
            obtain ⟨q11, e11, hq⟩ := mh_ob hq
            refine st_invV (pc := 172) (ci := 10) (vs := [.int l1, .int l2, .int v5]) (rest := []) (st2 := [.int q11.1]) dX11_pours_172 okX10_putIn (by decide) hkq11 hbq11 wd_708 wd_709 wd_710 pdX10_putIn rfl rfl rfl rfl (Nat.le_trans (by decide) hd) (Nat.le_of_ble_eq_true rfl) (T_X10_putIn (Nat.le_refl _) e11) rfl ?_
            refine st_pop (pc := 175) dX11_pours_175 rfl ?_
            refine st_iinc (pc := 176) (lv' := [some (.ref l0), some (.int l1), some (.int l2), some (.int l3), some (.int l4), some (.int l5), some (.int (l6 + Int32.ofInt (1))), some (.int l7), some (.int v5)]) dX11_pours_176 rfl rfl (by decide) rfl ?_
            refine st_lesS (lv' := [some (.ref l0), some (.int l1), some (.int l2), some (.int l3), some (.int l4), some (.int l5), some (.int (l6 + Int32.ofInt (1))), some (.int l7), none]) ⟨Or.inr rfl, Or.inr rfl, Or.inr rfl, Or.inr rfl, Or.inr rfl, Or.inr rfl, Or.inr rfl, Or.inr rfl, Or.inl rfl, trivial⟩ ?_
            exact T_X11_pours_179 hd ih hq
          ·
            refine st_aload_n (pc := 158) dX11_pours_158 rfl ?_
            refine st_iconst (pc := 159) (v := (4 : Int32)) dX11_pours_159 rfl ?_
            obtain ⟨⟨hbq10, hkq10⟩, hq⟩ := mh_oi hq
            obtain ⟨q10, e10, hq⟩ := mh_ob hq
            refine st_invV (pc := 160) (ci := 11) (vs := [.int (4 : Int32)]) (rest := []) (st2 := [.int q10.1]) dX11_pours_160 okX11_error (by decide) hkq10 hbq10 wd_314 wd_316 wp_0 pdX11_error rfl rfl rfl rfl (Nat.le_trans (by decide) hd) (Nat.le_of_ble_eq_true rfl) (T_X11_error (Nat.le_refl _) e10) rfl ?_
            exact bd_iret (pc := 163) hq dX11_pours_163 rfl
def D_X11_pours (N : Nat) (h : mh_H) (l0 : Nat) (l1 : Int32) (l2 : Int32) (l3 : Int32) (l4 : Int32) (l5 : Int32) : Option (Int32 × mh_H) :=
  (gR h 11 l0 0).bind fun v1 =>
  kO h 10 v1 <|
  (D_X10_isJoint N h v1 l1).bind fun q2 =>
  if q2.1 = 0 then (D_X11_pours_36 N q2.2 l0)
  else ((D_X11_isColour N q2.2 l2).bind fun q3 =>
  if q3.1 = 0 then (D_X11_pours_36 N q3.2 l0)
  else ((D_X11_isSheet N q3.2 l3).bind fun q4 =>
  if q4.1 = 0 then (D_X11_pours_36 N q4.2 l0)
  else ((D_X11_within N q4.2 l5 (0 : Int32) (9 : Int32)).bind fun q5 =>
  if q5.1 = 0 then (D_X11_pours_36 N q5.2 l0)
  else ((gR q5.2 11 l0 0).bind fun v6 =>
  kO q5.2 10 v6 <|
  (D_X10_isOf N q5.2 v6 l1 (0 : Int32)).bind fun q7 =>
  if q7.1 = 0 then (kO q7.2 11 l0 <|
  (D_X11_error N q7.2 l0 (5 : Int32)).bind fun q8 =>
  some (q8.1, q8.2))
  else ((gR q7.2 11 l0 6).bind fun v8 =>
  (aI q7.2 v8 l3).bind fun v9 =>
  if v9 = 0 then (kO q7.2 11 l0 <|
  (D_X11_error N q7.2 l0 (2 : Int32)).bind fun q10 =>
  some (q10.1, q10.2))
  else (D_X11_pours_81 N N q7.2 l0 l1 l2 l3 l4 l5 (0 : Int32) (0 : Int32)))))))
set_option maxHeartbeats 4000000 in
set_option maxRecDepth 100000 in
theorem T_X11_pours {P : mh_E → Prop} {N d : Nat} (hd : 3 ≤ d) {z : (Int32 × mh_H)} {h : mh_H} {l0 : Nat} {l1 : Int32} {l2 : Int32} {l3 : Int32} {l4 : Int32} {l5 : Int32} (hq : D_X11_pours N h l0 l1 l2 l3 l4 l5 = some z) : mh_go P d mX11_pours 0 [some (.ref l0), some (.int l1), some (.int l2), some (.int l3), some (.int l4), some (.int l5), none, none, none] [] h (some (.int z.1)) z.2 := by
  unfold D_X11_pours at hq
  refine st_aload_n (pc := 0) dX11_pours_0 rfl ?_
  refine bd_getr (pc := 1) hq dX11_pours_1 fl_11_10_11 rfl (fun v1 hq => ?_)
  refine st_iload_n (pc := 4) dX11_pours_4 rfl ?_
  obtain ⟨⟨hbq2, hkq2⟩, hq⟩ := mh_oi hq
  obtain ⟨q2, e2, hq⟩ := mh_ob hq
  refine st_invV (pc := 5) (ci := 10) (vs := [.int l1]) (rest := []) (st2 := [.int q2.1]) dX11_pours_5 okX10_isJoint (by decide) hkq2 hbq2 wd_327 wd_328 wd_329 pdX10_isJoint rfl rfl rfl rfl (Nat.le_trans (by decide) hd) (Nat.le_of_ble_eq_true rfl) (T_X10_isJoint (Nat.le_refl _) e2) rfl ?_
  refine bd_if_eq (pc := 8) (tgt := 36) hq dX11_pours_8 (by decide) (fun _ hq => ?_) (fun _ hq => ?_)
  ·
    refine st_lesS (lv' := [some (.ref l0), none, none, none, none, none, none, none, none]) ⟨Or.inr rfl, Or.inl rfl, Or.inl rfl, Or.inl rfl, Or.inl rfl, Or.inl rfl, Or.inr rfl, Or.inr rfl, Or.inr rfl, trivial⟩ ?_
    exact T_X11_pours_36 hd hq
  ·
    refine st_iload_n (pc := 11) dX11_pours_11 rfl ?_
    obtain ⟨q3, e3, hq⟩ := mh_ob hq
    refine st_invS (pc := 12) (Y := mX11_isColour) (vs := [.int l2]) (rest := []) (st2 := [.int q3.1]) dX11_pours_12 okX11_isColour wd_494 wd_495 pdX11_isColour rfl rfl rfl rfl (Nat.le_trans (by decide) hd) (Nat.le_of_ble_eq_true rfl) (T_X11_isColour (Nat.le_refl _) e3) rfl ?_
    refine bd_if_eq (pc := 15) (tgt := 36) hq dX11_pours_15 (by decide) (fun _ hq => ?_) (fun _ hq => ?_)
    ·
      refine st_lesS (lv' := [some (.ref l0), none, none, none, none, none, none, none, none]) ⟨Or.inr rfl, Or.inl rfl, Or.inl rfl, Or.inl rfl, Or.inl rfl, Or.inl rfl, Or.inr rfl, Or.inr rfl, Or.inr rfl, trivial⟩ ?_
      exact T_X11_pours_36 hd hq
    ·
      refine st_iload_n (pc := 18) dX11_pours_18 rfl ?_
      obtain ⟨q4, e4, hq⟩ := mh_ob hq
      refine st_invS (pc := 19) (Y := mX11_isSheet) (vs := [.int l3]) (rest := []) (st2 := [.int q4.1]) dX11_pours_19 okX11_isSheet wd_724 wd_725 pdX11_isSheet rfl rfl rfl rfl (Nat.le_trans (by decide) hd) (Nat.le_of_ble_eq_true rfl) (T_X11_isSheet (Nat.le_refl _) e4) rfl ?_
      refine bd_if_eq (pc := 22) (tgt := 36) hq dX11_pours_22 (by decide) (fun _ hq => ?_) (fun _ hq => ?_)
      ·
        refine st_lesS (lv' := [some (.ref l0), none, none, none, none, none, none, none, none]) ⟨Or.inr rfl, Or.inl rfl, Or.inl rfl, Or.inl rfl, Or.inl rfl, Or.inl rfl, Or.inr rfl, Or.inr rfl, Or.inr rfl, trivial⟩ ?_
        exact T_X11_pours_36 hd hq
      ·
        refine st_iload (pc := 25) dX11_pours_25 rfl ?_
        refine st_iconst (pc := 27) (v := (0 : Int32)) dX11_pours_27 rfl ?_
        refine st_bipush (pc := 28) (v := (9 : Int32)) dX11_pours_28 (by decide) ?_
        obtain ⟨q5, e5, hq⟩ := mh_ob hq
        refine st_invS (pc := 30) (Y := mX11_within) (vs := [.int l5, .int (0 : Int32), .int (9 : Int32)]) (rest := []) (st2 := [.int q5.1]) dX11_pours_30 okX11_within wd_311 wd_312 pdX11_within rfl rfl rfl rfl (Nat.le_trans (by decide) hd) (Nat.le_of_ble_eq_true rfl) (T_X11_within (Nat.le_refl _) e5) rfl ?_
        refine bd_if_ne (pc := 33) (tgt := 42) hq dX11_pours_33 (by decide) (fun _ hq => ?_) (fun _ hq => ?_)
        ·
          refine st_lesS (lv' := [some (.ref l0), none, none, none, none, none, none, none, none]) ⟨Or.inr rfl, Or.inl rfl, Or.inl rfl, Or.inl rfl, Or.inl rfl, Or.inl rfl, Or.inr rfl, Or.inr rfl, Or.inr rfl, trivial⟩ ?_
          exact T_X11_pours_36 hd hq
        ·
          refine st_aload_n (pc := 42) dX11_pours_42 rfl ?_
          refine bd_getr (pc := 43) hq dX11_pours_43 fl_11_10_11 rfl (fun v6 hq => ?_)
          refine st_iload_n (pc := 46) dX11_pours_46 rfl ?_
          refine st_iconst (pc := 47) (v := (0 : Int32)) dX11_pours_47 rfl ?_
          obtain ⟨⟨hbq7, hkq7⟩, hq⟩ := mh_oi hq
          obtain ⟨q7, e7, hq⟩ := mh_ob hq
          refine st_invV (pc := 48) (ci := 10) (vs := [.int l1, .int (0 : Int32)]) (rest := []) (st2 := [.int q7.1]) dX11_pours_48 okX10_isOf (by decide) hkq7 hbq7 wd_347 wd_343 wd_344 pdX10_isOf rfl rfl rfl rfl (Nat.le_trans (by decide) hd) (Nat.le_of_ble_eq_true rfl) (T_X10_isOf (Nat.le_refl _) e7) rfl ?_
          refine bd_if_ne (pc := 51) (tgt := 60) hq dX11_pours_51 (by decide) (fun _ hq => ?_) (fun _ hq => ?_)
          ·
            refine st_aload_n (pc := 54) dX11_pours_54 rfl ?_
            refine st_iconst (pc := 55) (v := (5 : Int32)) dX11_pours_55 rfl ?_
            obtain ⟨⟨hbq8, hkq8⟩, hq⟩ := mh_oi hq
            obtain ⟨q8, e8, hq⟩ := mh_ob hq
            refine st_invV (pc := 56) (ci := 11) (vs := [.int (5 : Int32)]) (rest := []) (st2 := [.int q8.1]) dX11_pours_56 okX11_error (by decide) hkq8 hbq8 wd_314 wd_316 wp_0 pdX11_error rfl rfl rfl rfl (Nat.le_trans (by decide) hd) (Nat.le_of_ble_eq_true rfl) (T_X11_error (Nat.le_refl _) e8) rfl ?_
            exact bd_iret (pc := 59) hq dX11_pours_59 rfl
          ·
            refine st_aload_n (pc := 60) dX11_pours_60 rfl ?_
            refine bd_getr (pc := 61) hq dX11_pours_61 fl_11_46_11 rfl (fun v8 hq => ?_)
            refine st_iload_n (pc := 64) dX11_pours_64 rfl ?_
            refine bd_iald (pc := 65) hq dX11_pours_65 (fun v9 hq => ?_)
            refine bd_if_ne (pc := 66) (tgt := 75) hq dX11_pours_66 (by decide) (fun _ hq => ?_) (fun _ hq => ?_)
            ·
              refine st_aload_n (pc := 69) dX11_pours_69 rfl ?_
              refine st_iconst (pc := 70) (v := (2 : Int32)) dX11_pours_70 rfl ?_
              obtain ⟨⟨hbq10, hkq10⟩, hq⟩ := mh_oi hq
              obtain ⟨q10, e10, hq⟩ := mh_ob hq
              refine st_invV (pc := 71) (ci := 11) (vs := [.int (2 : Int32)]) (rest := []) (st2 := [.int q10.1]) dX11_pours_71 okX11_error (by decide) hkq10 hbq10 wd_314 wd_316 wp_0 pdX11_error rfl rfl rfl rfl (Nat.le_trans (by decide) hd) (Nat.le_of_ble_eq_true rfl) (T_X11_error (Nat.le_refl _) e10) rfl ?_
              exact bd_iret (pc := 74) hq dX11_pours_74 rfl
            ·
              refine st_iconst (pc := 75) (v := (0 : Int32)) dX11_pours_75 rfl ?_
              refine st_istore (pc := 76) (lv' := [some (.ref l0), some (.int l1), some (.int l2), some (.int l3), some (.int l4), some (.int l5), some (.int (0 : Int32)), none, none]) dX11_pours_76 rfl (by decide) rfl ?_
              refine st_iconst (pc := 78) (v := (0 : Int32)) dX11_pours_78 rfl ?_
              refine st_istore (pc := 79) (lv' := [some (.ref l0), some (.int l1), some (.int l2), some (.int l3), some (.int l4), some (.int l5), some (.int (0 : Int32)), some (.int (0 : Int32)), none]) dX11_pours_79 rfl (by decide) rfl ?_
              exact T_X11_pours_81 hd N _ _ _ _ _ _ _ _ _ hq
-- HoleWater.grains(II)I
theorem dX11_grains_18 : decode cX11_grains 18 = .ok (.aload_n 0, 1) := by decide +kernel
theorem dX11_grains_19 : decode cX11_grains 19 = .ok (.iconst 1, 1) := by decide +kernel
theorem dX11_grains_20 : decode cX11_grains 20 = .ok (.invokevirtual 66, 3) := by decide +kernel
theorem dX11_grains_23 : decode cX11_grains 23 = .ok (.ireturn, 1) := by decide +kernel
theorem dX11_grains_0 : decode cX11_grains 0 = .ok (.aload_n 0, 1) := by decide +kernel
theorem dX11_grains_1 : decode cX11_grains 1 = .ok (.getfield 10, 3) := by decide +kernel
theorem dX11_grains_4 : decode cX11_grains 4 = .ok (.iload_n 1, 1) := by decide +kernel
theorem dX11_grains_5 : decode cX11_grains 5 = .ok (.invokevirtual 77, 3) := by decide +kernel
theorem dX11_grains_8 : decode cX11_grains 8 = .ok (.ifCond .eq 10, 3) := by decide +kernel
theorem dX11_grains_11 : decode cX11_grains 11 = .ok (.iload_n 2, 1) := by decide +kernel
theorem dX11_grains_12 : decode cX11_grains 12 = .ok (.invokestatic 183, 3) := by decide +kernel
theorem dX11_grains_15 : decode cX11_grains 15 = .ok (.ifCond .ne 9, 3) := by decide +kernel
theorem dX11_grains_24 : decode cX11_grains 24 = .ok (.aload_n 0, 1) := by decide +kernel
theorem dX11_grains_25 : decode cX11_grains 25 = .ok (.getfield 10, 3) := by decide +kernel
theorem dX11_grains_28 : decode cX11_grains 28 = .ok (.getfield 90, 3) := by decide +kernel
theorem dX11_grains_31 : decode cX11_grains 31 = .ok (.getfield 93, 3) := by decide +kernel
theorem dX11_grains_34 : decode cX11_grains 34 = .ok (.iload_n 1, 1) := by decide +kernel
theorem dX11_grains_35 : decode cX11_grains 35 = .ok (.iconst 5, 1) := by decide +kernel
theorem dX11_grains_36 : decode cX11_grains 36 = .ok (.imul, 1) := by decide +kernel
theorem dX11_grains_37 : decode cX11_grains 37 = .ok (.iconst 1, 1) := by decide +kernel
theorem dX11_grains_38 : decode cX11_grains 38 = .ok (.iadd, 1) := by decide +kernel
theorem dX11_grains_39 : decode cX11_grains 39 = .ok (.iload_n 2, 1) := by decide +kernel
theorem dX11_grains_40 : decode cX11_grains 40 = .ok (.iadd, 1) := by decide +kernel
theorem dX11_grains_41 : decode cX11_grains 41 = .ok (.iaload, 1) := by decide +kernel
theorem dX11_grains_42 : decode cX11_grains 42 = .ok (.ireturn, 1) := by decide +kernel
def D_X11_grains_18 (N : Nat) (h : mh_H) (l0 : Nat) : Option (Int32 × mh_H) :=
  kO h 11 l0 <|
  (D_X11_error N h l0 (1 : Int32)).bind fun q1 =>
  some (q1.1, q1.2)
set_option maxHeartbeats 4000000 in
set_option maxRecDepth 100000 in
theorem T_X11_grains_18 {P : mh_E → Prop} {N d : Nat} (hd : 3 ≤ d) {z : (Int32 × mh_H)} {h : mh_H} {l0 : Nat} (hq : D_X11_grains_18 N h l0 = some z) : mh_go P d mX11_grains 18 [some (.ref l0), none, none] [] h (some (.int z.1)) z.2 := by
  unfold D_X11_grains_18 at hq
  refine st_aload_n (pc := 18) dX11_grains_18 rfl ?_
  refine st_iconst (pc := 19) (v := (1 : Int32)) dX11_grains_19 rfl ?_
  obtain ⟨⟨hbq1, hkq1⟩, hq⟩ := mh_oi hq
  obtain ⟨q1, e1, hq⟩ := mh_ob hq
  refine st_invV (pc := 20) (ci := 11) (vs := [.int (1 : Int32)]) (rest := []) (st2 := [.int q1.1]) dX11_grains_20 okX11_error (by decide) hkq1 hbq1 wd_314 wd_316 wp_0 pdX11_error rfl rfl rfl rfl (Nat.le_trans (by decide) hd) (Nat.le_of_ble_eq_true rfl) (T_X11_error (Nat.le_refl _) e1) rfl ?_
  exact bd_iret (pc := 23) hq dX11_grains_23 rfl
def D_X11_grains (N : Nat) (h : mh_H) (l0 : Nat) (l1 : Int32) (l2 : Int32) : Option (Int32 × mh_H) :=
  (gR h 11 l0 0).bind fun v1 =>
  kO h 10 v1 <|
  (D_X10_isJoint N h v1 l1).bind fun q2 =>
  if q2.1 = 0 then (D_X11_grains_18 N q2.2 l0)
  else ((D_X11_isColour N q2.2 l2).bind fun q3 =>
  if q3.1 = 0 then (D_X11_grains_18 N q3.2 l0)
  else ((gR q3.2 11 l0 0).bind fun v4 =>
  (gR q3.2 10 v4 7).bind fun v5 =>
  (gR q3.2 8 v5 5).bind fun v6 =>
  (aI q3.2 v6 (((l1 * (5 : Int32)) + (1 : Int32)) + l2)).bind fun v7 =>
  some (v7, q3.2)))
set_option maxHeartbeats 4000000 in
set_option maxRecDepth 100000 in
theorem T_X11_grains {P : mh_E → Prop} {N d : Nat} (hd : 3 ≤ d) {z : (Int32 × mh_H)} {h : mh_H} {l0 : Nat} {l1 : Int32} {l2 : Int32} (hq : D_X11_grains N h l0 l1 l2 = some z) : mh_go P d mX11_grains 0 [some (.ref l0), some (.int l1), some (.int l2)] [] h (some (.int z.1)) z.2 := by
  unfold D_X11_grains at hq
  refine st_aload_n (pc := 0) dX11_grains_0 rfl ?_
  refine bd_getr (pc := 1) hq dX11_grains_1 fl_11_10_11 rfl (fun v1 hq => ?_)
  refine st_iload_n (pc := 4) dX11_grains_4 rfl ?_
  obtain ⟨⟨hbq2, hkq2⟩, hq⟩ := mh_oi hq
  obtain ⟨q2, e2, hq⟩ := mh_ob hq
  refine st_invV (pc := 5) (ci := 10) (vs := [.int l1]) (rest := []) (st2 := [.int q2.1]) dX11_grains_5 okX10_isJoint (by decide) hkq2 hbq2 wd_327 wd_328 wd_329 pdX10_isJoint rfl rfl rfl rfl (Nat.le_trans (by decide) hd) (Nat.le_of_ble_eq_true rfl) (T_X10_isJoint (Nat.le_refl _) e2) rfl ?_
  refine bd_if_eq (pc := 8) (tgt := 18) hq dX11_grains_8 (by decide) (fun _ hq => ?_) (fun _ hq => ?_)
  ·
    refine st_lesS (lv' := [some (.ref l0), none, none]) ⟨Or.inr rfl, Or.inl rfl, Or.inl rfl, trivial⟩ ?_
    exact T_X11_grains_18 hd hq
  ·
    refine st_iload_n (pc := 11) dX11_grains_11 rfl ?_
    obtain ⟨q3, e3, hq⟩ := mh_ob hq
    refine st_invS (pc := 12) (Y := mX11_isColour) (vs := [.int l2]) (rest := []) (st2 := [.int q3.1]) dX11_grains_12 okX11_isColour wd_494 wd_495 pdX11_isColour rfl rfl rfl rfl (Nat.le_trans (by decide) hd) (Nat.le_of_ble_eq_true rfl) (T_X11_isColour (Nat.le_refl _) e3) rfl ?_
    refine bd_if_ne (pc := 15) (tgt := 24) hq dX11_grains_15 (by decide) (fun _ hq => ?_) (fun _ hq => ?_)
    ·
      refine st_lesS (lv' := [some (.ref l0), none, none]) ⟨Or.inr rfl, Or.inl rfl, Or.inl rfl, trivial⟩ ?_
      exact T_X11_grains_18 hd hq
    ·
      refine st_aload_n (pc := 24) dX11_grains_24 rfl ?_
      refine bd_getr (pc := 25) hq dX11_grains_25 fl_11_10_11 rfl (fun v4 hq => ?_)
      refine bd_getr (pc := 28) hq dX11_grains_28 fl_11_90_10 rfl (fun v5 hq => ?_)
      refine bd_getr (pc := 31) hq dX11_grains_31 fl_11_93_8 rfl (fun v6 hq => ?_)
      refine st_iload_n (pc := 34) dX11_grains_34 rfl ?_
      refine st_iconst (pc := 35) (v := (5 : Int32)) dX11_grains_35 rfl ?_
      refine st_imul (pc := 36) dX11_grains_36 ?_
      refine st_iconst (pc := 37) (v := (1 : Int32)) dX11_grains_37 rfl ?_
      refine st_iadd (pc := 38) dX11_grains_38 ?_
      refine st_iload_n (pc := 39) dX11_grains_39 rfl ?_
      refine st_iadd (pc := 40) dX11_grains_40 ?_
      refine bd_iald (pc := 41) hq dX11_grains_41 (fun v7 hq => ?_)
      exact bd_iret (pc := 42) hq dX11_grains_42 rfl
-- HoleWater$World.allBelow(I)I
theorem dX10_allBelow_36 : decode cX10_allBelow 36 = .ok (.iload_n 3, 1) := by decide +kernel
theorem dX10_allBelow_37 : decode cX10_allBelow 37 = .ok (.aload_n 0, 1) := by decide +kernel
theorem dX10_allBelow_38 : decode cX10_allBelow 38 = .ok (.getfield 15, 3) := by decide +kernel
theorem dX10_allBelow_41 : decode cX10_allBelow 41 = .ok (.if_icmp .ge 21, 3) := by decide +kernel
theorem dX10_allBelow_62 : decode cX10_allBelow 62 = .ok (.iload_n 2, 1) := by decide +kernel
theorem dX10_allBelow_63 : decode cX10_allBelow 63 = .ok (.ireturn, 1) := by decide +kernel
theorem dX10_allBelow_44 : decode cX10_allBelow 44 = .ok (.iload_n 2, 1) := by decide +kernel
theorem dX10_allBelow_45 : decode cX10_allBelow 45 = .ok (.aload_n 0, 1) := by decide +kernel
theorem dX10_allBelow_46 : decode cX10_allBelow 46 = .ok (.getfield 40, 3) := by decide +kernel
theorem dX10_allBelow_49 : decode cX10_allBelow 49 = .ok (.iload_n 3, 1) := by decide +kernel
theorem dX10_allBelow_50 : decode cX10_allBelow 50 = .ok (.iload_n 1, 1) := by decide +kernel
theorem dX10_allBelow_51 : decode cX10_allBelow 51 = .ok (.invokevirtual 109, 3) := by decide +kernel
theorem dX10_allBelow_54 : decode cX10_allBelow 54 = .ok (.iadd, 1) := by decide +kernel
theorem dX10_allBelow_55 : decode cX10_allBelow 55 = .ok (.istore_n 2, 1) := by decide +kernel
theorem dX10_allBelow_56 : decode cX10_allBelow 56 = .ok (.iinc 3 1, 3) := by decide +kernel
theorem dX10_allBelow_59 : decode cX10_allBelow 59 = .ok (.goto (-23), 3) := by decide +kernel
theorem dX10_allBelow_4 : decode cX10_allBelow 4 = .ok (.iload_n 3, 1) := by decide +kernel
theorem dX10_allBelow_5 : decode cX10_allBelow 5 = .ok (.aload_n 0, 1) := by decide +kernel
theorem dX10_allBelow_6 : decode cX10_allBelow 6 = .ok (.getfield 9, 3) := by decide +kernel
theorem dX10_allBelow_9 : decode cX10_allBelow 9 = .ok (.if_icmp .ge 25, 3) := by decide +kernel
theorem dX10_allBelow_34 : decode cX10_allBelow 34 = .ok (.iconst 0, 1) := by decide +kernel
theorem dX10_allBelow_35 : decode cX10_allBelow 35 = .ok (.istore_n 3, 1) := by decide +kernel
theorem dX10_allBelow_12 : decode cX10_allBelow 12 = .ok (.iload_n 2, 1) := by decide +kernel
theorem dX10_allBelow_13 : decode cX10_allBelow 13 = .ok (.aload_n 0, 1) := by decide +kernel
theorem dX10_allBelow_14 : decode cX10_allBelow 14 = .ok (.getfield 40, 3) := by decide +kernel
theorem dX10_allBelow_17 : decode cX10_allBelow 17 = .ok (.getfield 96, 3) := by decide +kernel
theorem dX10_allBelow_20 : decode cX10_allBelow 20 = .ok (.iload_n 3, 1) := by decide +kernel
theorem dX10_allBelow_21 : decode cX10_allBelow 21 = .ok (.iconst 5, 1) := by decide +kernel
theorem dX10_allBelow_22 : decode cX10_allBelow 22 = .ok (.imul, 1) := by decide +kernel
theorem dX10_allBelow_23 : decode cX10_allBelow 23 = .ok (.iload_n 1, 1) := by decide +kernel
theorem dX10_allBelow_24 : decode cX10_allBelow 24 = .ok (.iadd, 1) := by decide +kernel
theorem dX10_allBelow_25 : decode cX10_allBelow 25 = .ok (.iaload, 1) := by decide +kernel
theorem dX10_allBelow_26 : decode cX10_allBelow 26 = .ok (.iadd, 1) := by decide +kernel
theorem dX10_allBelow_27 : decode cX10_allBelow 27 = .ok (.istore_n 2, 1) := by decide +kernel
theorem dX10_allBelow_28 : decode cX10_allBelow 28 = .ok (.iinc 3 1, 3) := by decide +kernel
theorem dX10_allBelow_31 : decode cX10_allBelow 31 = .ok (.goto (-27), 3) := by decide +kernel
theorem dX10_allBelow_0 : decode cX10_allBelow 0 = .ok (.iconst 0, 1) := by decide +kernel
theorem dX10_allBelow_1 : decode cX10_allBelow 1 = .ok (.istore_n 2, 1) := by decide +kernel
theorem dX10_allBelow_2 : decode cX10_allBelow 2 = .ok (.iconst 0, 1) := by decide +kernel
theorem dX10_allBelow_3 : decode cX10_allBelow 3 = .ok (.istore_n 3, 1) := by decide +kernel
def D_X10_allBelow_36 (N : Nat) : Nat → mh_H → Nat → Int32 → Int32 → Int32 → Option (Int32 × mh_H)
  | 0, _, _, _, _, _ => none
  | F + 1, h, l0, l1, l2, l3 =>
    (gI h 10 l0 1).bind fun v1 =>
    if v1 ≤ l3 then (some (l2, h))
    else ((gR h 10 l0 7).bind fun v2 =>
    kO h 8 v2 <|
    (D_X8_inWay N h v2 l3 l1).bind fun q3 =>
    (D_X10_allBelow_36 N F) q3.2 l0 l1 (l2 + q3.1) (l3 + Int32.ofInt (1)))
set_option maxHeartbeats 4000000 in
set_option maxRecDepth 100000 in
theorem T_X10_allBelow_36 {P : mh_E → Prop} {N d : Nat} (hd : 2 ≤ d) {z : (Int32 × mh_H)} : ∀ (F : Nat) (h : mh_H) (l0 : Nat) (l1 : Int32) (l2 : Int32) (l3 : Int32), D_X10_allBelow_36 N F h l0 l1 l2 l3 = some z → mh_go P d mX10_allBelow 36 [some (.ref l0), some (.int l1), some (.int l2), some (.int l3)] [] h (some (.int z.1)) z.2 := by
  intro F
  induction F with
  | zero => intro h l0 l1 l2 l3 hq; rw [D_X10_allBelow_36] at hq; cases hq
  | succ F ih =>
    intro h l0 l1 l2 l3 hq
    rw [D_X10_allBelow_36] at hq
    refine st_iload_n (pc := 36) dX10_allBelow_36 rfl ?_
    refine st_aload_n (pc := 37) dX10_allBelow_37 rfl ?_
    refine bd_geti (pc := 38) hq dX10_allBelow_38 fl_10_15_10 rfl (fun v1 hq => ?_)
    refine bd_icmp_ge (pc := 41) (tgt := 62) hq dX10_allBelow_41 (by decide) (fun _ hq => ?_) (fun _ hq => ?_)
    ·
      refine st_iload_n (pc := 62) dX10_allBelow_62 rfl ?_
      exact bd_iret (pc := 63) hq dX10_allBelow_63 rfl
    ·
      refine st_iload_n (pc := 44) dX10_allBelow_44 rfl ?_
      refine st_aload_n (pc := 45) dX10_allBelow_45 rfl ?_
      refine bd_getr (pc := 46) hq dX10_allBelow_46 fl_10_40_10 rfl (fun v2 hq => ?_)
      refine st_iload_n (pc := 49) dX10_allBelow_49 rfl ?_
      refine st_iload_n (pc := 50) dX10_allBelow_50 rfl ?_
      obtain ⟨⟨hbq3, hkq3⟩, hq⟩ := mh_oi hq
      obtain ⟨q3, e3, hq⟩ := mh_ob hq
      refine st_invV (pc := 51) (ci := 8) (vs := [.int l3, .int l1]) (rest := [.int l2]) (st2 := [.int q3.1, .int l2]) dX10_allBelow_51 okX8_inWay (by decide) hkq3 hbq3 wd_739 wd_464 wd_465 pdX8_inWay rfl rfl rfl rfl (Nat.le_trans (by decide) hd) (Nat.le_of_ble_eq_true rfl) (T_X8_inWay (Nat.le_refl _) e3) rfl ?_
      refine st_iadd (pc := 54) dX10_allBelow_54 ?_
      refine st_istore_n (pc := 55) (lv' := [some (.ref l0), some (.int l1), some (.int (l2 + q3.1)), some (.int l3)]) dX10_allBelow_55 rfl (by decide) rfl ?_
      refine st_iinc (pc := 56) (lv' := [some (.ref l0), some (.int l1), some (.int (l2 + q3.1)), some (.int (l3 + Int32.ofInt (1)))]) dX10_allBelow_56 rfl rfl (by decide) rfl ?_
      refine st_goto (pc := 59) (tgt := 36) dX10_allBelow_59 (by decide) ?_
      exact ih _ _ _ _ _ hq
def D_X10_allBelow_4 (N : Nat) : Nat → mh_H → Nat → Int32 → Int32 → Int32 → Option (Int32 × mh_H)
  | 0, _, _, _, _, _ => none
  | F + 1, h, l0, l1, l2, l3 =>
    (gI h 10 l0 0).bind fun v1 =>
    if v1 ≤ l3 then (D_X10_allBelow_36 N N h l0 l1 l2 (0 : Int32))
    else ((gR h 10 l0 7).bind fun v2 =>
    (gR h 8 v2 5).bind fun v3 =>
    (aI h v3 ((l3 * (5 : Int32)) + l1)).bind fun v4 =>
    (D_X10_allBelow_4 N F) h l0 l1 (l2 + v4) (l3 + Int32.ofInt (1)))
set_option maxHeartbeats 4000000 in
set_option maxRecDepth 100000 in
theorem T_X10_allBelow_4 {P : mh_E → Prop} {N d : Nat} (hd : 2 ≤ d) {z : (Int32 × mh_H)} : ∀ (F : Nat) (h : mh_H) (l0 : Nat) (l1 : Int32) (l2 : Int32) (l3 : Int32), D_X10_allBelow_4 N F h l0 l1 l2 l3 = some z → mh_go P d mX10_allBelow 4 [some (.ref l0), some (.int l1), some (.int l2), some (.int l3)] [] h (some (.int z.1)) z.2 := by
  intro F
  induction F with
  | zero => intro h l0 l1 l2 l3 hq; rw [D_X10_allBelow_4] at hq; cases hq
  | succ F ih =>
    intro h l0 l1 l2 l3 hq
    rw [D_X10_allBelow_4] at hq
    refine st_iload_n (pc := 4) dX10_allBelow_4 rfl ?_
    refine st_aload_n (pc := 5) dX10_allBelow_5 rfl ?_
    refine bd_geti (pc := 6) hq dX10_allBelow_6 fl_10_9_10 rfl (fun v1 hq => ?_)
    refine bd_icmp_ge (pc := 9) (tgt := 34) hq dX10_allBelow_9 (by decide) (fun _ hq => ?_) (fun _ hq => ?_)
    ·
      refine st_iconst (pc := 34) (v := (0 : Int32)) dX10_allBelow_34 rfl ?_
      refine st_istore_n (pc := 35) (lv' := [some (.ref l0), some (.int l1), some (.int l2), some (.int (0 : Int32))]) dX10_allBelow_35 rfl (by decide) rfl ?_
      exact T_X10_allBelow_36 hd N _ _ _ _ _ hq
    ·
      refine st_iload_n (pc := 12) dX10_allBelow_12 rfl ?_
      refine st_aload_n (pc := 13) dX10_allBelow_13 rfl ?_
      refine bd_getr (pc := 14) hq dX10_allBelow_14 fl_10_40_10 rfl (fun v2 hq => ?_)
      refine bd_getr (pc := 17) hq dX10_allBelow_17 fl_10_96_8 rfl (fun v3 hq => ?_)
      refine st_iload_n (pc := 20) dX10_allBelow_20 rfl ?_
      refine st_iconst (pc := 21) (v := (5 : Int32)) dX10_allBelow_21 rfl ?_
      refine st_imul (pc := 22) dX10_allBelow_22 ?_
      refine st_iload_n (pc := 23) dX10_allBelow_23 rfl ?_
      refine st_iadd (pc := 24) dX10_allBelow_24 ?_
      refine bd_iald (pc := 25) hq dX10_allBelow_25 (fun v4 hq => ?_)
      refine st_iadd (pc := 26) dX10_allBelow_26 ?_
      refine st_istore_n (pc := 27) (lv' := [some (.ref l0), some (.int l1), some (.int (l2 + v4)), some (.int l3)]) dX10_allBelow_27 rfl (by decide) rfl ?_
      refine st_iinc (pc := 28) (lv' := [some (.ref l0), some (.int l1), some (.int (l2 + v4)), some (.int (l3 + Int32.ofInt (1)))]) dX10_allBelow_28 rfl rfl (by decide) rfl ?_
      refine st_goto (pc := 31) (tgt := 4) dX10_allBelow_31 (by decide) ?_
      exact ih _ _ _ _ _ hq
def D_X10_allBelow (N : Nat) (h : mh_H) (l0 : Nat) (l1 : Int32) : Option (Int32 × mh_H) :=
  D_X10_allBelow_4 N N h l0 l1 (0 : Int32) (0 : Int32)
set_option maxHeartbeats 4000000 in
set_option maxRecDepth 100000 in
theorem T_X10_allBelow {P : mh_E → Prop} {N d : Nat} (hd : 2 ≤ d) {z : (Int32 × mh_H)} {h : mh_H} {l0 : Nat} {l1 : Int32} (hq : D_X10_allBelow N h l0 l1 = some z) : mh_go P d mX10_allBelow 0 [some (.ref l0), some (.int l1), none, none] [] h (some (.int z.1)) z.2 := by
  unfold D_X10_allBelow at hq
  refine st_iconst (pc := 0) (v := (0 : Int32)) dX10_allBelow_0 rfl ?_
  refine st_istore_n (pc := 1) (lv' := [some (.ref l0), some (.int l1), some (.int (0 : Int32)), none]) dX10_allBelow_1 rfl (by decide) rfl ?_
  refine st_iconst (pc := 2) (v := (0 : Int32)) dX10_allBelow_2 rfl ?_
  refine st_istore_n (pc := 3) (lv' := [some (.ref l0), some (.int l1), some (.int (0 : Int32)), some (.int (0 : Int32))]) dX10_allBelow_3 rfl (by decide) rfl ?_
  exact T_X10_allBelow_4 hd N _ _ _ _ _ hq
-- HoleWater.stuff(II)I
theorem dX11_stuff_17 : decode cX11_stuff 17 = .ok (.aload_n 0, 1) := by decide +kernel
theorem dX11_stuff_18 : decode cX11_stuff 18 = .ok (.iconst 1, 1) := by decide +kernel
theorem dX11_stuff_19 : decode cX11_stuff 19 = .ok (.invokevirtual 66, 3) := by decide +kernel
theorem dX11_stuff_22 : decode cX11_stuff 22 = .ok (.ireturn, 1) := by decide +kernel
theorem dX11_stuff_0 : decode cX11_stuff 0 = .ok (.iload_n 1, 1) := by decide +kernel
theorem dX11_stuff_1 : decode cX11_stuff 1 = .ok (.invokestatic 183, 3) := by decide +kernel
theorem dX11_stuff_4 : decode cX11_stuff 4 = .ok (.ifCond .eq 13, 3) := by decide +kernel
theorem dX11_stuff_7 : decode cX11_stuff 7 = .ok (.iload_n 2, 1) := by decide +kernel
theorem dX11_stuff_8 : decode cX11_stuff 8 = .ok (.iconst 0, 1) := by decide +kernel
theorem dX11_stuff_9 : decode cX11_stuff 9 = .ok (.bipush 6, 2) := by decide +kernel
theorem dX11_stuff_11 : decode cX11_stuff 11 = .ok (.invokestatic 62, 3) := by decide +kernel
theorem dX11_stuff_14 : decode cX11_stuff 14 = .ok (.ifCond .ne 9, 3) := by decide +kernel
theorem dX11_stuff_23 : decode cX11_stuff 23 = .ok (.iload_n 2, 1) := by decide +kernel
theorem dX11_stuff_24 : decode cX11_stuff 24 = .ok (.iconst 1, 1) := by decide +kernel
theorem dX11_stuff_25 : decode cX11_stuff 25 = .ok (.if_icmp .ne 16, 3) := by decide +kernel
theorem dX11_stuff_28 : decode cX11_stuff 28 = .ok (.aload_n 0, 1) := by decide +kernel
theorem dX11_stuff_29 : decode cX11_stuff 29 = .ok (.getfield 10, 3) := by decide +kernel
theorem dX11_stuff_32 : decode cX11_stuff 32 = .ok (.iconst 1, 1) := by decide +kernel
theorem dX11_stuff_33 : decode cX11_stuff 33 = .ok (.iload_n 1, 1) := by decide +kernel
theorem dX11_stuff_34 : decode cX11_stuff 34 = .ok (.iadd, 1) := by decide +kernel
theorem dX11_stuff_35 : decode cX11_stuff 35 = .ok (.invokevirtual 214, 3) := by decide +kernel
theorem dX11_stuff_38 : decode cX11_stuff 38 = .ok (.goto 20, 3) := by decide +kernel
theorem dX11_stuff_58 : decode cX11_stuff 58 = .ok (.ireturn, 1) := by decide +kernel
theorem dX11_stuff_41 : decode cX11_stuff 41 = .ok (.aload_n 0, 1) := by decide +kernel
theorem dX11_stuff_42 : decode cX11_stuff 42 = .ok (.getfield 10, 3) := by decide +kernel
theorem dX11_stuff_45 : decode cX11_stuff 45 = .ok (.getfield 90, 3) := by decide +kernel
theorem dX11_stuff_48 : decode cX11_stuff 48 = .ok (.getfield 217, 3) := by decide +kernel
theorem dX11_stuff_51 : decode cX11_stuff 51 = .ok (.iload_n 1, 1) := by decide +kernel
theorem dX11_stuff_52 : decode cX11_stuff 52 = .ok (.bipush 7, 2) := by decide +kernel
theorem dX11_stuff_54 : decode cX11_stuff 54 = .ok (.imul, 1) := by decide +kernel
theorem dX11_stuff_55 : decode cX11_stuff 55 = .ok (.iload_n 2, 1) := by decide +kernel
theorem dX11_stuff_56 : decode cX11_stuff 56 = .ok (.iadd, 1) := by decide +kernel
theorem dX11_stuff_57 : decode cX11_stuff 57 = .ok (.iaload, 1) := by decide +kernel
def D_X11_stuff_17 (N : Nat) (h : mh_H) (l0 : Nat) : Option (Int32 × mh_H) :=
  kO h 11 l0 <|
  (D_X11_error N h l0 (1 : Int32)).bind fun q1 =>
  some (q1.1, q1.2)
set_option maxHeartbeats 4000000 in
set_option maxRecDepth 100000 in
theorem T_X11_stuff_17 {P : mh_E → Prop} {N d : Nat} (hd : 3 ≤ d) {z : (Int32 × mh_H)} {h : mh_H} {l0 : Nat} (hq : D_X11_stuff_17 N h l0 = some z) : mh_go P d mX11_stuff 17 [some (.ref l0), none, none] [] h (some (.int z.1)) z.2 := by
  unfold D_X11_stuff_17 at hq
  refine st_aload_n (pc := 17) dX11_stuff_17 rfl ?_
  refine st_iconst (pc := 18) (v := (1 : Int32)) dX11_stuff_18 rfl ?_
  obtain ⟨⟨hbq1, hkq1⟩, hq⟩ := mh_oi hq
  obtain ⟨q1, e1, hq⟩ := mh_ob hq
  refine st_invV (pc := 19) (ci := 11) (vs := [.int (1 : Int32)]) (rest := []) (st2 := [.int q1.1]) dX11_stuff_19 okX11_error (by decide) hkq1 hbq1 wd_314 wd_316 wp_0 pdX11_error rfl rfl rfl rfl (Nat.le_trans (by decide) hd) (Nat.le_of_ble_eq_true rfl) (T_X11_error (Nat.le_refl _) e1) rfl ?_
  exact bd_iret (pc := 22) hq dX11_stuff_22 rfl
def D_X11_stuff (N : Nat) (h : mh_H) (l0 : Nat) (l1 : Int32) (l2 : Int32) : Option (Int32 × mh_H) :=
  (D_X11_isColour N h l1).bind fun q1 =>
  if q1.1 = 0 then (D_X11_stuff_17 N q1.2 l0)
  else ((D_X11_within N q1.2 l2 (0 : Int32) (6 : Int32)).bind fun q2 =>
  if q2.1 = 0 then (D_X11_stuff_17 N q2.2 l0)
  else (if l2 = (1 : Int32) then ((gR q2.2 11 l0 0).bind fun v3 =>
  kO q2.2 10 v3 <|
  (D_X10_allBelow N q2.2 v3 ((1 : Int32) + l1)).bind fun q4 =>
  some (q4.1, q4.2))
  else ((gR q2.2 11 l0 0).bind fun v3 =>
  (gR q2.2 10 v3 7).bind fun v4 =>
  (gR q2.2 8 v4 4).bind fun v5 =>
  (aI q2.2 v5 ((l1 * (7 : Int32)) + l2)).bind fun v6 =>
  some (v6, q2.2))))
set_option maxHeartbeats 4000000 in
set_option maxRecDepth 100000 in
theorem T_X11_stuff {P : mh_E → Prop} {N d : Nat} (hd : 3 ≤ d) {z : (Int32 × mh_H)} {h : mh_H} {l0 : Nat} {l1 : Int32} {l2 : Int32} (hq : D_X11_stuff N h l0 l1 l2 = some z) : mh_go P d mX11_stuff 0 [some (.ref l0), some (.int l1), some (.int l2)] [] h (some (.int z.1)) z.2 := by
  unfold D_X11_stuff at hq
  refine st_iload_n (pc := 0) dX11_stuff_0 rfl ?_
  obtain ⟨q1, e1, hq⟩ := mh_ob hq
  refine st_invS (pc := 1) (Y := mX11_isColour) (vs := [.int l1]) (rest := []) (st2 := [.int q1.1]) dX11_stuff_1 okX11_isColour wd_494 wd_495 pdX11_isColour rfl rfl rfl rfl (Nat.le_trans (by decide) hd) (Nat.le_of_ble_eq_true rfl) (T_X11_isColour (Nat.le_refl _) e1) rfl ?_
  refine bd_if_eq (pc := 4) (tgt := 17) hq dX11_stuff_4 (by decide) (fun _ hq => ?_) (fun _ hq => ?_)
  ·
    refine st_lesS (lv' := [some (.ref l0), none, none]) ⟨Or.inr rfl, Or.inl rfl, Or.inl rfl, trivial⟩ ?_
    exact T_X11_stuff_17 hd hq
  ·
    refine st_iload_n (pc := 7) dX11_stuff_7 rfl ?_
    refine st_iconst (pc := 8) (v := (0 : Int32)) dX11_stuff_8 rfl ?_
    refine st_bipush (pc := 9) (v := (6 : Int32)) dX11_stuff_9 (by decide) ?_
    obtain ⟨q2, e2, hq⟩ := mh_ob hq
    refine st_invS (pc := 11) (Y := mX11_within) (vs := [.int l2, .int (0 : Int32), .int (6 : Int32)]) (rest := []) (st2 := [.int q2.1]) dX11_stuff_11 okX11_within wd_311 wd_312 pdX11_within rfl rfl rfl rfl (Nat.le_trans (by decide) hd) (Nat.le_of_ble_eq_true rfl) (T_X11_within (Nat.le_refl _) e2) rfl ?_
    refine bd_if_ne (pc := 14) (tgt := 23) hq dX11_stuff_14 (by decide) (fun _ hq => ?_) (fun _ hq => ?_)
    ·
      refine st_lesS (lv' := [some (.ref l0), none, none]) ⟨Or.inr rfl, Or.inl rfl, Or.inl rfl, trivial⟩ ?_
      exact T_X11_stuff_17 hd hq
    ·
      refine st_iload_n (pc := 23) dX11_stuff_23 rfl ?_
      refine st_iconst (pc := 24) (v := (1 : Int32)) dX11_stuff_24 rfl ?_
      refine bd_icmp_ne (pc := 25) (tgt := 41) hq dX11_stuff_25 (by decide) (fun _ hq => ?_) (fun _ hq => ?_)
      ·
        refine st_aload_n (pc := 28) dX11_stuff_28 rfl ?_
        refine bd_getr (pc := 29) hq dX11_stuff_29 fl_11_10_11 rfl (fun v3 hq => ?_)
        refine st_iconst (pc := 32) (v := (1 : Int32)) dX11_stuff_32 rfl ?_
        refine st_iload_n (pc := 33) dX11_stuff_33 rfl ?_
        refine st_iadd (pc := 34) dX11_stuff_34 ?_
        obtain ⟨⟨hbq4, hkq4⟩, hq⟩ := mh_oi hq
        obtain ⟨q4, e4, hq⟩ := mh_ob hq
        refine st_invV (pc := 35) (ci := 10) (vs := [.int ((1 : Int32) + l1)]) (rest := []) (st2 := [.int q4.1]) dX11_stuff_35 okX10_allBelow (by decide) hkq4 hbq4 wd_735 wd_736 wd_737 pdX10_allBelow rfl rfl rfl rfl (Nat.le_trans (by decide) hd) (Nat.le_of_ble_eq_true rfl) (T_X10_allBelow (Nat.le_refl _) e4) rfl ?_
        refine st_goto (pc := 38) (tgt := 58) dX11_stuff_38 (by decide) ?_
        exact bd_iret (pc := 58) hq dX11_stuff_58 rfl
      ·
        refine st_aload_n (pc := 41) dX11_stuff_41 rfl ?_
        refine bd_getr (pc := 42) hq dX11_stuff_42 fl_11_10_11 rfl (fun v3 hq => ?_)
        refine bd_getr (pc := 45) hq dX11_stuff_45 fl_11_90_10 rfl (fun v4 hq => ?_)
        refine bd_getr (pc := 48) hq dX11_stuff_48 fl_11_217_8 rfl (fun v5 hq => ?_)
        refine st_iload_n (pc := 51) dX11_stuff_51 rfl ?_
        refine st_bipush (pc := 52) (v := (7 : Int32)) dX11_stuff_52 (by decide) ?_
        refine st_imul (pc := 54) dX11_stuff_54 ?_
        refine st_iload_n (pc := 55) dX11_stuff_55 rfl ?_
        refine st_iadd (pc := 56) dX11_stuff_56 ?_
        refine bd_iald (pc := 57) hq dX11_stuff_57 (fun v6 hq => ?_)
        exact bd_iret (pc := 58) hq dX11_stuff_58 rfl
-- HoleWater$Water.cameOut(III)I
theorem dX8_cameOut_0 : decode cX8_cameOut 0 = .ok (.aload_n 0, 1) := by decide +kernel
theorem dX8_cameOut_1 : decode cX8_cameOut 1 = .ok (.getfield 9, 3) := by decide +kernel
theorem dX8_cameOut_4 : decode cX8_cameOut 4 = .ok (.iload_n 3, 1) := by decide +kernel
theorem dX8_cameOut_5 : decode cX8_cameOut 5 = .ok (.isub, 1) := by decide +kernel
theorem dX8_cameOut_6 : decode cX8_cameOut 6 = .ok (.istore 4, 2) := by decide +kernel
theorem dX8_cameOut_8 : decode cX8_cameOut 8 = .ok (.iload 4, 2) := by decide +kernel
theorem dX8_cameOut_10 : decode cX8_cameOut 10 = .ok (.ifCond .ge 7, 3) := by decide +kernel
theorem dX8_cameOut_17 : decode cX8_cameOut 17 = .ok (.aload_n 0, 1) := by decide +kernel
theorem dX8_cameOut_18 : decode cX8_cameOut 18 = .ok (.getfield 44, 3) := by decide +kernel
theorem dX8_cameOut_21 : decode cX8_cameOut 21 = .ok (.iload_n 1, 1) := by decide +kernel
theorem dX8_cameOut_22 : decode cX8_cameOut 22 = .ok (.iconst 4, 1) := by decide +kernel
theorem dX8_cameOut_23 : decode cX8_cameOut 23 = .ok (.imul, 1) := by decide +kernel
theorem dX8_cameOut_24 : decode cX8_cameOut 24 = .ok (.iload_n 2, 1) := by decide +kernel
theorem dX8_cameOut_25 : decode cX8_cameOut 25 = .ok (.iadd, 1) := by decide +kernel
theorem dX8_cameOut_26 : decode cX8_cameOut 26 = .ok (.bipush 24, 2) := by decide +kernel
theorem dX8_cameOut_28 : decode cX8_cameOut 28 = .ok (.imul, 1) := by decide +kernel
theorem dX8_cameOut_29 : decode cX8_cameOut 29 = .ok (.iload 4, 2) := by decide +kernel
theorem dX8_cameOut_31 : decode cX8_cameOut 31 = .ok (.bipush 24, 2) := by decide +kernel
theorem dX8_cameOut_33 : decode cX8_cameOut 33 = .ok (.irem, 1) := by decide +kernel
theorem dX8_cameOut_34 : decode cX8_cameOut 34 = .ok (.iadd, 1) := by decide +kernel
theorem dX8_cameOut_35 : decode cX8_cameOut 35 = .ok (.iaload, 1) := by decide +kernel
theorem dX8_cameOut_36 : decode cX8_cameOut 36 = .ok (.ireturn, 1) := by decide +kernel
theorem dX8_cameOut_13 : decode cX8_cameOut 13 = .ok (.iconst 0, 1) := by decide +kernel
theorem dX8_cameOut_14 : decode cX8_cameOut 14 = .ok (.goto 22, 3) := by decide +kernel
def D_X8_cameOut (N : Nat) (h : mh_H) (l0 : Nat) (l1 : Int32) (l2 : Int32) (l3 : Int32) : Option (Int32 × mh_H) :=
  (gI h 8 l0 0).bind fun v1 =>
  if 0 ≤ (v1 - l3) then ((gR h 8 l0 10).bind fun v2 =>
  dN (24 : Int32) <|
  (aI h v2 ((((l1 * (4 : Int32)) + l2) * (24 : Int32)) + ((v1 - l3) - (v1 - l3) / (24 : Int32) * (24 : Int32)))).bind fun v3 =>
  some (v3, h))
  else (some ((0 : Int32), h))
set_option maxHeartbeats 4000000 in
set_option maxRecDepth 100000 in
theorem T_X8_cameOut {P : mh_E → Prop} {N d : Nat} (hd : 1 ≤ d) {z : (Int32 × mh_H)} {h : mh_H} {l0 : Nat} {l1 : Int32} {l2 : Int32} {l3 : Int32} (hq : D_X8_cameOut N h l0 l1 l2 l3 = some z) : mh_go P d mX8_cameOut 0 [some (.ref l0), some (.int l1), some (.int l2), some (.int l3), none] [] h (some (.int z.1)) z.2 := by
  unfold D_X8_cameOut at hq
  refine st_aload_n (pc := 0) dX8_cameOut_0 rfl ?_
  refine bd_geti (pc := 1) hq dX8_cameOut_1 fl_8_9_8 rfl (fun v1 hq => ?_)
  refine st_iload_n (pc := 4) dX8_cameOut_4 rfl ?_
  refine st_isub (pc := 5) dX8_cameOut_5 ?_
  refine st_istore (pc := 6) (lv' := [some (.ref l0), some (.int l1), some (.int l2), some (.int l3), some (.int (v1 - l3))]) dX8_cameOut_6 rfl (by decide) rfl ?_
  refine st_iload (pc := 8) dX8_cameOut_8 rfl ?_
  refine bd_if_ge (pc := 10) (tgt := 17) hq dX8_cameOut_10 (by decide) (fun _ hq => ?_) (fun _ hq => ?_)
  ·
    refine st_aload_n (pc := 17) dX8_cameOut_17 rfl ?_
    refine bd_getr (pc := 18) hq dX8_cameOut_18 fl_8_44_8 rfl (fun v2 hq => ?_)
    refine st_iload_n (pc := 21) dX8_cameOut_21 rfl ?_
    refine st_iconst (pc := 22) (v := (4 : Int32)) dX8_cameOut_22 rfl ?_
    refine st_imul (pc := 23) dX8_cameOut_23 ?_
    refine st_iload_n (pc := 24) dX8_cameOut_24 rfl ?_
    refine st_iadd (pc := 25) dX8_cameOut_25 ?_
    refine st_bipush (pc := 26) (v := (24 : Int32)) dX8_cameOut_26 (by decide) ?_
    refine st_imul (pc := 28) dX8_cameOut_28 ?_
    refine st_iload (pc := 29) dX8_cameOut_29 rfl ?_
    refine st_bipush (pc := 31) (v := (24 : Int32)) dX8_cameOut_31 (by decide) ?_
    refine bd_irem (pc := 33) hq dX8_cameOut_33 (fun hq => ?_)
    refine st_iadd (pc := 34) dX8_cameOut_34 ?_
    refine bd_iald (pc := 35) hq dX8_cameOut_35 (fun v3 hq => ?_)
    exact bd_iret (pc := 36) hq dX8_cameOut_36 rfl
  ·
    refine st_iconst (pc := 13) (v := (0 : Int32)) dX8_cameOut_13 rfl ?_
    refine st_goto (pc := 14) (tgt := 36) dX8_cameOut_14 (by decide) ?_
    exact bd_iret (pc := 36) hq dX8_cameOut_36 rfl
-- HoleWater.out(III)I
theorem dX11_out_28 : decode cX11_out 28 = .ok (.aload_n 0, 1) := by decide +kernel
theorem dX11_out_29 : decode cX11_out 29 = .ok (.iconst 1, 1) := by decide +kernel
theorem dX11_out_30 : decode cX11_out 30 = .ok (.invokevirtual 66, 3) := by decide +kernel
theorem dX11_out_33 : decode cX11_out 33 = .ok (.ireturn, 1) := by decide +kernel
theorem dX11_out_0 : decode cX11_out 0 = .ok (.aload_n 0, 1) := by decide +kernel
theorem dX11_out_1 : decode cX11_out 1 = .ok (.getfield 10, 3) := by decide +kernel
theorem dX11_out_4 : decode cX11_out 4 = .ok (.iload_n 1, 1) := by decide +kernel
theorem dX11_out_5 : decode cX11_out 5 = .ok (.invokevirtual 77, 3) := by decide +kernel
theorem dX11_out_8 : decode cX11_out 8 = .ok (.ifCond .eq 20, 3) := by decide +kernel
theorem dX11_out_11 : decode cX11_out 11 = .ok (.iload_n 2, 1) := by decide +kernel
theorem dX11_out_12 : decode cX11_out 12 = .ok (.invokestatic 183, 3) := by decide +kernel
theorem dX11_out_15 : decode cX11_out 15 = .ok (.ifCond .eq 13, 3) := by decide +kernel
theorem dX11_out_18 : decode cX11_out 18 = .ok (.iload_n 3, 1) := by decide +kernel
theorem dX11_out_19 : decode cX11_out 19 = .ok (.iconst 1, 1) := by decide +kernel
theorem dX11_out_20 : decode cX11_out 20 = .ok (.bipush 24, 2) := by decide +kernel
theorem dX11_out_22 : decode cX11_out 22 = .ok (.invokestatic 62, 3) := by decide +kernel
theorem dX11_out_25 : decode cX11_out 25 = .ok (.ifCond .ne 9, 3) := by decide +kernel
theorem dX11_out_34 : decode cX11_out 34 = .ok (.aload_n 0, 1) := by decide +kernel
theorem dX11_out_35 : decode cX11_out 35 = .ok (.getfield 10, 3) := by decide +kernel
theorem dX11_out_38 : decode cX11_out 38 = .ok (.iload_n 1, 1) := by decide +kernel
theorem dX11_out_39 : decode cX11_out 39 = .ok (.invokevirtual 109, 3) := by decide +kernel
theorem dX11_out_42 : decode cX11_out 42 = .ok (.ifCond .eq 19, 3) := by decide +kernel
theorem dX11_out_61 : decode cX11_out 61 = .ok (.aload_n 0, 1) := by decide +kernel
theorem dX11_out_62 : decode cX11_out 62 = .ok (.iconst 5, 1) := by decide +kernel
theorem dX11_out_63 : decode cX11_out 63 = .ok (.invokevirtual 66, 3) := by decide +kernel
theorem dX11_out_66 : decode cX11_out 66 = .ok (.ireturn, 1) := by decide +kernel
theorem dX11_out_45 : decode cX11_out 45 = .ok (.aload_n 0, 1) := by decide +kernel
theorem dX11_out_46 : decode cX11_out 46 = .ok (.getfield 10, 3) := by decide +kernel
theorem dX11_out_49 : decode cX11_out 49 = .ok (.getfield 90, 3) := by decide +kernel
theorem dX11_out_52 : decode cX11_out 52 = .ok (.iload_n 1, 1) := by decide +kernel
theorem dX11_out_53 : decode cX11_out 53 = .ok (.iload_n 2, 1) := by decide +kernel
theorem dX11_out_54 : decode cX11_out 54 = .ok (.iload_n 3, 1) := by decide +kernel
theorem dX11_out_55 : decode cX11_out 55 = .ok (.invokevirtual 220, 3) := by decide +kernel
theorem dX11_out_58 : decode cX11_out 58 = .ok (.goto 8, 3) := by decide +kernel
def D_X11_out_28 (N : Nat) (h : mh_H) (l0 : Nat) : Option (Int32 × mh_H) :=
  kO h 11 l0 <|
  (D_X11_error N h l0 (1 : Int32)).bind fun q1 =>
  some (q1.1, q1.2)
set_option maxHeartbeats 4000000 in
set_option maxRecDepth 100000 in
theorem T_X11_out_28 {P : mh_E → Prop} {N d : Nat} (hd : 4 ≤ d) {z : (Int32 × mh_H)} {h : mh_H} {l0 : Nat} (hq : D_X11_out_28 N h l0 = some z) : mh_go P d mX11_out 28 [some (.ref l0), none, none, none] [] h (some (.int z.1)) z.2 := by
  unfold D_X11_out_28 at hq
  refine st_aload_n (pc := 28) dX11_out_28 rfl ?_
  refine st_iconst (pc := 29) (v := (1 : Int32)) dX11_out_29 rfl ?_
  obtain ⟨⟨hbq1, hkq1⟩, hq⟩ := mh_oi hq
  obtain ⟨q1, e1, hq⟩ := mh_ob hq
  refine st_invV (pc := 30) (ci := 11) (vs := [.int (1 : Int32)]) (rest := []) (st2 := [.int q1.1]) dX11_out_30 okX11_error (by decide) hkq1 hbq1 wd_314 wd_316 wp_0 pdX11_error rfl rfl rfl rfl (Nat.le_trans (by decide) hd) (Nat.le_of_ble_eq_true rfl) (T_X11_error (Nat.le_refl _) e1) rfl ?_
  exact bd_iret (pc := 33) hq dX11_out_33 rfl
def D_X11_out (N : Nat) (h : mh_H) (l0 : Nat) (l1 : Int32) (l2 : Int32) (l3 : Int32) : Option (Int32 × mh_H) :=
  (gR h 11 l0 0).bind fun v1 =>
  kO h 10 v1 <|
  (D_X10_isJoint N h v1 l1).bind fun q2 =>
  if q2.1 = 0 then (D_X11_out_28 N q2.2 l0)
  else ((D_X11_isColour N q2.2 l2).bind fun q3 =>
  if q3.1 = 0 then (D_X11_out_28 N q3.2 l0)
  else ((D_X11_within N q3.2 l3 (1 : Int32) (24 : Int32)).bind fun q4 =>
  if q4.1 = 0 then (D_X11_out_28 N q4.2 l0)
  else ((gR q4.2 11 l0 0).bind fun v5 =>
  kO q4.2 10 v5 <|
  (D_X10_isOutlet N q4.2 v5 l1).bind fun q6 =>
  if q6.1 = 0 then (kO q6.2 11 l0 <|
  (D_X11_error N q6.2 l0 (5 : Int32)).bind fun q7 =>
  some (q7.1, q7.2))
  else ((gR q6.2 11 l0 0).bind fun v7 =>
  (gR q6.2 10 v7 7).bind fun v8 =>
  kO q6.2 8 v8 <|
  (D_X8_cameOut N q6.2 v8 l1 l2 l3).bind fun q9 =>
  some (q9.1, q9.2)))))
set_option maxHeartbeats 4000000 in
set_option maxRecDepth 100000 in
theorem T_X11_out {P : mh_E → Prop} {N d : Nat} (hd : 4 ≤ d) {z : (Int32 × mh_H)} {h : mh_H} {l0 : Nat} {l1 : Int32} {l2 : Int32} {l3 : Int32} (hq : D_X11_out N h l0 l1 l2 l3 = some z) : mh_go P d mX11_out 0 [some (.ref l0), some (.int l1), some (.int l2), some (.int l3)] [] h (some (.int z.1)) z.2 := by
  unfold D_X11_out at hq
  refine st_aload_n (pc := 0) dX11_out_0 rfl ?_
  refine bd_getr (pc := 1) hq dX11_out_1 fl_11_10_11 rfl (fun v1 hq => ?_)
  refine st_iload_n (pc := 4) dX11_out_4 rfl ?_
  obtain ⟨⟨hbq2, hkq2⟩, hq⟩ := mh_oi hq
  obtain ⟨q2, e2, hq⟩ := mh_ob hq
  refine st_invV (pc := 5) (ci := 10) (vs := [.int l1]) (rest := []) (st2 := [.int q2.1]) dX11_out_5 okX10_isJoint (by decide) hkq2 hbq2 wd_327 wd_328 wd_329 pdX10_isJoint rfl rfl rfl rfl (Nat.le_trans (by decide) hd) (Nat.le_of_ble_eq_true rfl) (T_X10_isJoint (Nat.le_refl _) e2) rfl ?_
  refine bd_if_eq (pc := 8) (tgt := 28) hq dX11_out_8 (by decide) (fun _ hq => ?_) (fun _ hq => ?_)
  ·
    refine st_lesS (lv' := [some (.ref l0), none, none, none]) ⟨Or.inr rfl, Or.inl rfl, Or.inl rfl, Or.inl rfl, trivial⟩ ?_
    exact T_X11_out_28 hd hq
  ·
    refine st_iload_n (pc := 11) dX11_out_11 rfl ?_
    obtain ⟨q3, e3, hq⟩ := mh_ob hq
    refine st_invS (pc := 12) (Y := mX11_isColour) (vs := [.int l2]) (rest := []) (st2 := [.int q3.1]) dX11_out_12 okX11_isColour wd_494 wd_495 pdX11_isColour rfl rfl rfl rfl (Nat.le_trans (by decide) hd) (Nat.le_of_ble_eq_true rfl) (T_X11_isColour (Nat.le_refl _) e3) rfl ?_
    refine bd_if_eq (pc := 15) (tgt := 28) hq dX11_out_15 (by decide) (fun _ hq => ?_) (fun _ hq => ?_)
    ·
      refine st_lesS (lv' := [some (.ref l0), none, none, none]) ⟨Or.inr rfl, Or.inl rfl, Or.inl rfl, Or.inl rfl, trivial⟩ ?_
      exact T_X11_out_28 hd hq
    ·
      refine st_iload_n (pc := 18) dX11_out_18 rfl ?_
      refine st_iconst (pc := 19) (v := (1 : Int32)) dX11_out_19 rfl ?_
      refine st_bipush (pc := 20) (v := (24 : Int32)) dX11_out_20 (by decide) ?_
      obtain ⟨q4, e4, hq⟩ := mh_ob hq
      refine st_invS (pc := 22) (Y := mX11_within) (vs := [.int l3, .int (1 : Int32), .int (24 : Int32)]) (rest := []) (st2 := [.int q4.1]) dX11_out_22 okX11_within wd_311 wd_312 pdX11_within rfl rfl rfl rfl (Nat.le_trans (by decide) hd) (Nat.le_of_ble_eq_true rfl) (T_X11_within (Nat.le_refl _) e4) rfl ?_
      refine bd_if_ne (pc := 25) (tgt := 34) hq dX11_out_25 (by decide) (fun _ hq => ?_) (fun _ hq => ?_)
      ·
        refine st_lesS (lv' := [some (.ref l0), none, none, none]) ⟨Or.inr rfl, Or.inl rfl, Or.inl rfl, Or.inl rfl, trivial⟩ ?_
        exact T_X11_out_28 hd hq
      ·
        refine st_aload_n (pc := 34) dX11_out_34 rfl ?_
        refine bd_getr (pc := 35) hq dX11_out_35 fl_11_10_11 rfl (fun v5 hq => ?_)
        refine st_iload_n (pc := 38) dX11_out_38 rfl ?_
        obtain ⟨⟨hbq6, hkq6⟩, hq⟩ := mh_oi hq
        obtain ⟨q6, e6, hq⟩ := mh_ob hq
        refine st_invV (pc := 39) (ci := 10) (vs := [.int l1]) (rest := []) (st2 := [.int q6.1]) dX11_out_39 okX10_isOutlet (by decide) hkq6 hbq6 wd_338 wd_339 wd_340 pdX10_isOutlet rfl rfl rfl rfl (Nat.le_trans (by decide) hd) (Nat.le_of_ble_eq_true rfl) (T_X10_isOutlet (Nat.le_refl _) e6) rfl ?_
        refine bd_if_eq (pc := 42) (tgt := 61) hq dX11_out_42 (by decide) (fun _ hq => ?_) (fun _ hq => ?_)
        ·
          refine st_aload_n (pc := 61) dX11_out_61 rfl ?_
          refine st_iconst (pc := 62) (v := (5 : Int32)) dX11_out_62 rfl ?_
          obtain ⟨⟨hbq7, hkq7⟩, hq⟩ := mh_oi hq
          obtain ⟨q7, e7, hq⟩ := mh_ob hq
          refine st_invV (pc := 63) (ci := 11) (vs := [.int (5 : Int32)]) (rest := []) (st2 := [.int q7.1]) dX11_out_63 okX11_error (by decide) hkq7 hbq7 wd_314 wd_316 wp_0 pdX11_error rfl rfl rfl rfl (Nat.le_trans (by decide) hd) (Nat.le_of_ble_eq_true rfl) (T_X11_error (Nat.le_refl _) e7) rfl ?_
          exact bd_iret (pc := 66) hq dX11_out_66 rfl
        ·
          refine st_aload_n (pc := 45) dX11_out_45 rfl ?_
          refine bd_getr (pc := 46) hq dX11_out_46 fl_11_10_11 rfl (fun v7 hq => ?_)
          refine bd_getr (pc := 49) hq dX11_out_49 fl_11_90_10 rfl (fun v8 hq => ?_)
          refine st_iload_n (pc := 52) dX11_out_52 rfl ?_
          refine st_iload_n (pc := 53) dX11_out_53 rfl ?_
          refine st_iload_n (pc := 54) dX11_out_54 rfl ?_
          obtain ⟨⟨hbq9, hkq9⟩, hq⟩ := mh_oi hq
          obtain ⟨q9, e9, hq⟩ := mh_ob hq
          refine st_invV (pc := 55) (ci := 8) (vs := [.int l1, .int l2, .int l3]) (rest := []) (st2 := [.int q9.1]) dX11_out_55 okX8_cameOut (by decide) hkq9 hbq9 wd_744 wd_745 wd_746 pdX8_cameOut rfl rfl rfl rfl (Nat.le_trans (by decide) hd) (Nat.le_of_ble_eq_true rfl) (T_X8_cameOut (Nat.le_refl _) e9) rfl ?_
          refine st_goto (pc := 58) (tgt := 66) dX11_out_58 (by decide) ?_
          exact bd_iret (pc := 66) hq dX11_out_66 rfl
-- HoleWater.spillError(III)I
theorem dX11_spillError_0 : decode cX11_spillError 0 = .ok (.aload_n 0, 1) := by decide +kernel
theorem dX11_spillError_1 : decode cX11_spillError 1 = .ok (.getfield 10, 3) := by decide +kernel
theorem dX11_spillError_4 : decode cX11_spillError 4 = .ok (.iload_n 1, 1) := by decide +kernel
theorem dX11_spillError_5 : decode cX11_spillError 5 = .ok (.invokevirtual 77, 3) := by decide +kernel
theorem dX11_spillError_8 : decode cX11_spillError 8 = .ok (.ifCond .eq 25, 3) := by decide +kernel
theorem dX11_spillError_33 : decode cX11_spillError 33 = .ok (.iconst 1, 1) := by decide +kernel
theorem dX11_spillError_34 : decode cX11_spillError 34 = .ok (.ireturn, 1) := by decide +kernel
theorem dX11_spillError_11 : decode cX11_spillError 11 = .ok (.iload_n 2, 1) := by decide +kernel
theorem dX11_spillError_12 : decode cX11_spillError 12 = .ok (.iconst 1, 1) := by decide +kernel
theorem dX11_spillError_13 : decode cX11_spillError 13 = .ok (.sipush 9999, 3) := by decide +kernel
theorem dX11_spillError_16 : decode cX11_spillError 16 = .ok (.invokestatic 62, 3) := by decide +kernel
theorem dX11_spillError_19 : decode cX11_spillError 19 = .ok (.ifCond .eq 14, 3) := by decide +kernel
theorem dX11_spillError_22 : decode cX11_spillError 22 = .ok (.aload_n 0, 1) := by decide +kernel
theorem dX11_spillError_23 : decode cX11_spillError 23 = .ok (.getfield 10, 3) := by decide +kernel
theorem dX11_spillError_26 : decode cX11_spillError 26 = .ok (.iload_n 3, 1) := by decide +kernel
theorem dX11_spillError_27 : decode cX11_spillError 27 = .ok (.invokevirtual 77, 3) := by decide +kernel
theorem dX11_spillError_30 : decode cX11_spillError 30 = .ok (.ifCond .ne 5, 3) := by decide +kernel
theorem dX11_spillError_35 : decode cX11_spillError 35 = .ok (.aload_n 0, 1) := by decide +kernel
theorem dX11_spillError_36 : decode cX11_spillError 36 = .ok (.getfield 10, 3) := by decide +kernel
theorem dX11_spillError_39 : decode cX11_spillError 39 = .ok (.iload_n 1, 1) := by decide +kernel
theorem dX11_spillError_40 : decode cX11_spillError 40 = .ok (.iconst 0, 1) := by decide +kernel
theorem dX11_spillError_41 : decode cX11_spillError 41 = .ok (.invokevirtual 112, 3) := by decide +kernel
theorem dX11_spillError_44 : decode cX11_spillError 44 = .ok (.ifCond .eq 18, 3) := by decide +kernel
theorem dX11_spillError_62 : decode cX11_spillError 62 = .ok (.iconst 5, 1) := by decide +kernel
theorem dX11_spillError_63 : decode cX11_spillError 63 = .ok (.ireturn, 1) := by decide +kernel
theorem dX11_spillError_47 : decode cX11_spillError 47 = .ok (.aload_n 0, 1) := by decide +kernel
theorem dX11_spillError_48 : decode cX11_spillError 48 = .ok (.getfield 10, 3) := by decide +kernel
theorem dX11_spillError_51 : decode cX11_spillError 51 = .ok (.iload_n 3, 1) := by decide +kernel
theorem dX11_spillError_52 : decode cX11_spillError 52 = .ok (.invokevirtual 109, 3) := by decide +kernel
theorem dX11_spillError_55 : decode cX11_spillError 55 = .ok (.ifCond .eq 7, 3) := by decide +kernel
theorem dX11_spillError_58 : decode cX11_spillError 58 = .ok (.iconst 0, 1) := by decide +kernel
theorem dX11_spillError_59 : decode cX11_spillError 59 = .ok (.goto 4, 3) := by decide +kernel
def D_X11_spillError (N : Nat) (h : mh_H) (l0 : Nat) (l1 : Int32) (l2 : Int32) (l3 : Int32) : Option (Int32 × mh_H) :=
  (gR h 11 l0 0).bind fun v1 =>
  kO h 10 v1 <|
  (D_X10_isJoint N h v1 l1).bind fun q2 =>
  if q2.1 = 0 then (some ((1 : Int32), q2.2))
  else ((D_X11_within N q2.2 l2 (1 : Int32) (9999 : Int32)).bind fun q3 =>
  if q3.1 = 0 then (some ((1 : Int32), q3.2))
  else ((gR q3.2 11 l0 0).bind fun v4 =>
  kO q3.2 10 v4 <|
  (D_X10_isJoint N q3.2 v4 l3).bind fun q5 =>
  if q5.1 = 0 then (some ((1 : Int32), q5.2))
  else ((gR q5.2 11 l0 0).bind fun v6 =>
  kO q5.2 10 v6 <|
  (D_X10_isOf N q5.2 v6 l1 (0 : Int32)).bind fun q7 =>
  if q7.1 = 0 then (some ((5 : Int32), q7.2))
  else ((gR q7.2 11 l0 0).bind fun v8 =>
  kO q7.2 10 v8 <|
  (D_X10_isOutlet N q7.2 v8 l3).bind fun q9 =>
  if q9.1 = 0 then (some ((5 : Int32), q9.2))
  else (some ((0 : Int32), q9.2))))))
set_option maxHeartbeats 4000000 in
set_option maxRecDepth 100000 in
theorem T_X11_spillError {P : mh_E → Prop} {N d : Nat} (hd : 4 ≤ d) {z : (Int32 × mh_H)} {h : mh_H} {l0 : Nat} {l1 : Int32} {l2 : Int32} {l3 : Int32} (hq : D_X11_spillError N h l0 l1 l2 l3 = some z) : mh_go P d mX11_spillError 0 [some (.ref l0), some (.int l1), some (.int l2), some (.int l3)] [] h (some (.int z.1)) z.2 := by
  unfold D_X11_spillError at hq
  refine st_aload_n (pc := 0) dX11_spillError_0 rfl ?_
  refine bd_getr (pc := 1) hq dX11_spillError_1 fl_11_10_11 rfl (fun v1 hq => ?_)
  refine st_iload_n (pc := 4) dX11_spillError_4 rfl ?_
  obtain ⟨⟨hbq2, hkq2⟩, hq⟩ := mh_oi hq
  obtain ⟨q2, e2, hq⟩ := mh_ob hq
  refine st_invV (pc := 5) (ci := 10) (vs := [.int l1]) (rest := []) (st2 := [.int q2.1]) dX11_spillError_5 okX10_isJoint (by decide) hkq2 hbq2 wd_327 wd_328 wd_329 pdX10_isJoint rfl rfl rfl rfl (Nat.le_trans (by decide) hd) (Nat.le_of_ble_eq_true rfl) (T_X10_isJoint (Nat.le_refl _) e2) rfl ?_
  refine bd_if_eq (pc := 8) (tgt := 33) hq dX11_spillError_8 (by decide) (fun _ hq => ?_) (fun _ hq => ?_)
  ·
    refine st_iconst (pc := 33) (v := (1 : Int32)) dX11_spillError_33 rfl ?_
    exact bd_iret (pc := 34) hq dX11_spillError_34 rfl
  ·
    refine st_iload_n (pc := 11) dX11_spillError_11 rfl ?_
    refine st_iconst (pc := 12) (v := (1 : Int32)) dX11_spillError_12 rfl ?_
    refine st_sipush (pc := 13) (v := (9999 : Int32)) dX11_spillError_13 (by decide) ?_
    obtain ⟨q3, e3, hq⟩ := mh_ob hq
    refine st_invS (pc := 16) (Y := mX11_within) (vs := [.int l2, .int (1 : Int32), .int (9999 : Int32)]) (rest := []) (st2 := [.int q3.1]) dX11_spillError_16 okX11_within wd_311 wd_312 pdX11_within rfl rfl rfl rfl (Nat.le_trans (by decide) hd) (Nat.le_of_ble_eq_true rfl) (T_X11_within (Nat.le_refl _) e3) rfl ?_
    refine bd_if_eq (pc := 19) (tgt := 33) hq dX11_spillError_19 (by decide) (fun _ hq => ?_) (fun _ hq => ?_)
    ·
      refine st_iconst (pc := 33) (v := (1 : Int32)) dX11_spillError_33 rfl ?_
      exact bd_iret (pc := 34) hq dX11_spillError_34 rfl
    ·
      refine st_aload_n (pc := 22) dX11_spillError_22 rfl ?_
      refine bd_getr (pc := 23) hq dX11_spillError_23 fl_11_10_11 rfl (fun v4 hq => ?_)
      refine st_iload_n (pc := 26) dX11_spillError_26 rfl ?_
      obtain ⟨⟨hbq5, hkq5⟩, hq⟩ := mh_oi hq
      obtain ⟨q5, e5, hq⟩ := mh_ob hq
      refine st_invV (pc := 27) (ci := 10) (vs := [.int l3]) (rest := []) (st2 := [.int q5.1]) dX11_spillError_27 okX10_isJoint (by decide) hkq5 hbq5 wd_327 wd_328 wd_329 pdX10_isJoint rfl rfl rfl rfl (Nat.le_trans (by decide) hd) (Nat.le_of_ble_eq_true rfl) (T_X10_isJoint (Nat.le_refl _) e5) rfl ?_
      refine bd_if_ne (pc := 30) (tgt := 35) hq dX11_spillError_30 (by decide) (fun _ hq => ?_) (fun _ hq => ?_)
      ·
        refine st_iconst (pc := 33) (v := (1 : Int32)) dX11_spillError_33 rfl ?_
        exact bd_iret (pc := 34) hq dX11_spillError_34 rfl
      ·
        refine st_aload_n (pc := 35) dX11_spillError_35 rfl ?_
        refine bd_getr (pc := 36) hq dX11_spillError_36 fl_11_10_11 rfl (fun v6 hq => ?_)
        refine st_iload_n (pc := 39) dX11_spillError_39 rfl ?_
        refine st_iconst (pc := 40) (v := (0 : Int32)) dX11_spillError_40 rfl ?_
        obtain ⟨⟨hbq7, hkq7⟩, hq⟩ := mh_oi hq
        obtain ⟨q7, e7, hq⟩ := mh_ob hq
        refine st_invV (pc := 41) (ci := 10) (vs := [.int l1, .int (0 : Int32)]) (rest := []) (st2 := [.int q7.1]) dX11_spillError_41 okX10_isOf (by decide) hkq7 hbq7 wd_347 wd_343 wd_344 pdX10_isOf rfl rfl rfl rfl (Nat.le_trans (by decide) hd) (Nat.le_of_ble_eq_true rfl) (T_X10_isOf (Nat.le_refl _) e7) rfl ?_
        refine bd_if_eq (pc := 44) (tgt := 62) hq dX11_spillError_44 (by decide) (fun _ hq => ?_) (fun _ hq => ?_)
        ·
          refine st_iconst (pc := 62) (v := (5 : Int32)) dX11_spillError_62 rfl ?_
          exact bd_iret (pc := 63) hq dX11_spillError_63 rfl
        ·
          refine st_aload_n (pc := 47) dX11_spillError_47 rfl ?_
          refine bd_getr (pc := 48) hq dX11_spillError_48 fl_11_10_11 rfl (fun v8 hq => ?_)
          refine st_iload_n (pc := 51) dX11_spillError_51 rfl ?_
          obtain ⟨⟨hbq9, hkq9⟩, hq⟩ := mh_oi hq
          obtain ⟨q9, e9, hq⟩ := mh_ob hq
          refine st_invV (pc := 52) (ci := 10) (vs := [.int l3]) (rest := []) (st2 := [.int q9.1]) dX11_spillError_52 okX10_isOutlet (by decide) hkq9 hbq9 wd_338 wd_339 wd_340 pdX10_isOutlet rfl rfl rfl rfl (Nat.le_trans (by decide) hd) (Nat.le_of_ble_eq_true rfl) (T_X10_isOutlet (Nat.le_refl _) e9) rfl ?_
          refine bd_if_eq (pc := 55) (tgt := 62) hq dX11_spillError_55 (by decide) (fun _ hq => ?_) (fun _ hq => ?_)
          ·
            refine st_iconst (pc := 62) (v := (5 : Int32)) dX11_spillError_62 rfl ?_
            exact bd_iret (pc := 63) hq dX11_spillError_63 rfl
          ·
            refine st_iconst (pc := 58) (v := (0 : Int32)) dX11_spillError_58 rfl ?_
            refine st_goto (pc := 59) (tgt := 63) dX11_spillError_59 (by decide) ?_
            exact bd_iret (pc := 63) hq dX11_spillError_63 rfl
-- HoleWater$Water.copyOf(LHoleWater$Water;)V
theorem dX8_copyOf_0 : decode cX8_copyOf 0 = .ok (.aload_n 0, 1) := by decide +kernel
theorem dX8_copyOf_1 : decode cX8_copyOf 1 = .ok (.aload_n 1, 1) := by decide +kernel
theorem dX8_copyOf_2 : decode cX8_copyOf 2 = .ok (.getfield 9, 3) := by decide +kernel
theorem dX8_copyOf_5 : decode cX8_copyOf 5 = .ok (.putfield 9, 3) := by decide +kernel
theorem dX8_copyOf_8 : decode cX8_copyOf 8 = .ok (.aload_n 0, 1) := by decide +kernel
theorem dX8_copyOf_9 : decode cX8_copyOf 9 = .ok (.aload_n 1, 1) := by decide +kernel
theorem dX8_copyOf_10 : decode cX8_copyOf 10 = .ok (.getfield 15, 3) := by decide +kernel
theorem dX8_copyOf_13 : decode cX8_copyOf 13 = .ok (.putfield 15, 3) := by decide +kernel
theorem dX8_copyOf_16 : decode cX8_copyOf 16 = .ok (.aload_n 0, 1) := by decide +kernel
theorem dX8_copyOf_17 : decode cX8_copyOf 17 = .ok (.aload_n 1, 1) := by decide +kernel
theorem dX8_copyOf_18 : decode cX8_copyOf 18 = .ok (.getfield 19, 3) := by decide +kernel
theorem dX8_copyOf_21 : decode cX8_copyOf 21 = .ok (.putfield 19, 3) := by decide +kernel
theorem dX8_copyOf_24 : decode cX8_copyOf 24 = .ok (.aload_n 1, 1) := by decide +kernel
theorem dX8_copyOf_25 : decode cX8_copyOf 25 = .ok (.getfield 22, 3) := by decide +kernel
theorem dX8_copyOf_28 : decode cX8_copyOf 28 = .ok (.iconst 0, 1) := by decide +kernel
theorem dX8_copyOf_29 : decode cX8_copyOf 29 = .ok (.aload_n 0, 1) := by decide +kernel
theorem dX8_copyOf_30 : decode cX8_copyOf 30 = .ok (.getfield 22, 3) := by decide +kernel
theorem dX8_copyOf_33 : decode cX8_copyOf 33 = .ok (.iconst 0, 1) := by decide +kernel
theorem dX8_copyOf_34 : decode cX8_copyOf 34 = .ok (.aload_n 0, 1) := by decide +kernel
theorem dX8_copyOf_35 : decode cX8_copyOf 35 = .ok (.getfield 22, 3) := by decide +kernel
theorem dX8_copyOf_38 : decode cX8_copyOf 38 = .ok (.arraylength, 1) := by decide +kernel
theorem dX8_copyOf_39 : decode cX8_copyOf 39 = .ok (.invokestatic 50, 3) := by decide +kernel
theorem dX8_copyOf_42 : decode cX8_copyOf 42 = .ok (.aload_n 1, 1) := by decide +kernel
theorem dX8_copyOf_43 : decode cX8_copyOf 43 = .ok (.getfield 26, 3) := by decide +kernel
theorem dX8_copyOf_46 : decode cX8_copyOf 46 = .ok (.iconst 0, 1) := by decide +kernel
theorem dX8_copyOf_47 : decode cX8_copyOf 47 = .ok (.aload_n 0, 1) := by decide +kernel
theorem dX8_copyOf_48 : decode cX8_copyOf 48 = .ok (.getfield 26, 3) := by decide +kernel
theorem dX8_copyOf_51 : decode cX8_copyOf 51 = .ok (.iconst 0, 1) := by decide +kernel
theorem dX8_copyOf_52 : decode cX8_copyOf 52 = .ok (.aload_n 0, 1) := by decide +kernel
theorem dX8_copyOf_53 : decode cX8_copyOf 53 = .ok (.getfield 26, 3) := by decide +kernel
theorem dX8_copyOf_56 : decode cX8_copyOf 56 = .ok (.arraylength, 1) := by decide +kernel
theorem dX8_copyOf_57 : decode cX8_copyOf 57 = .ok (.invokestatic 50, 3) := by decide +kernel
theorem dX8_copyOf_60 : decode cX8_copyOf 60 = .ok (.aload_n 1, 1) := by decide +kernel
theorem dX8_copyOf_61 : decode cX8_copyOf 61 = .ok (.getfield 29, 3) := by decide +kernel
theorem dX8_copyOf_64 : decode cX8_copyOf 64 = .ok (.iconst 0, 1) := by decide +kernel
theorem dX8_copyOf_65 : decode cX8_copyOf 65 = .ok (.aload_n 0, 1) := by decide +kernel
theorem dX8_copyOf_66 : decode cX8_copyOf 66 = .ok (.getfield 29, 3) := by decide +kernel
theorem dX8_copyOf_69 : decode cX8_copyOf 69 = .ok (.iconst 0, 1) := by decide +kernel
theorem dX8_copyOf_70 : decode cX8_copyOf 70 = .ok (.aload_n 0, 1) := by decide +kernel
theorem dX8_copyOf_71 : decode cX8_copyOf 71 = .ok (.getfield 29, 3) := by decide +kernel
theorem dX8_copyOf_74 : decode cX8_copyOf 74 = .ok (.arraylength, 1) := by decide +kernel
theorem dX8_copyOf_75 : decode cX8_copyOf 75 = .ok (.invokestatic 50, 3) := by decide +kernel
theorem dX8_copyOf_78 : decode cX8_copyOf 78 = .ok (.aload_n 1, 1) := by decide +kernel
theorem dX8_copyOf_79 : decode cX8_copyOf 79 = .ok (.getfield 32, 3) := by decide +kernel
theorem dX8_copyOf_82 : decode cX8_copyOf 82 = .ok (.iconst 0, 1) := by decide +kernel
theorem dX8_copyOf_83 : decode cX8_copyOf 83 = .ok (.aload_n 0, 1) := by decide +kernel
theorem dX8_copyOf_84 : decode cX8_copyOf 84 = .ok (.getfield 32, 3) := by decide +kernel
theorem dX8_copyOf_87 : decode cX8_copyOf 87 = .ok (.iconst 0, 1) := by decide +kernel
theorem dX8_copyOf_88 : decode cX8_copyOf 88 = .ok (.aload_n 0, 1) := by decide +kernel
theorem dX8_copyOf_89 : decode cX8_copyOf 89 = .ok (.getfield 32, 3) := by decide +kernel
theorem dX8_copyOf_92 : decode cX8_copyOf 92 = .ok (.arraylength, 1) := by decide +kernel
theorem dX8_copyOf_93 : decode cX8_copyOf 93 = .ok (.invokestatic 50, 3) := by decide +kernel
theorem dX8_copyOf_96 : decode cX8_copyOf 96 = .ok (.aload_n 1, 1) := by decide +kernel
theorem dX8_copyOf_97 : decode cX8_copyOf 97 = .ok (.getfield 35, 3) := by decide +kernel
theorem dX8_copyOf_100 : decode cX8_copyOf 100 = .ok (.iconst 0, 1) := by decide +kernel
theorem dX8_copyOf_101 : decode cX8_copyOf 101 = .ok (.aload_n 0, 1) := by decide +kernel
theorem dX8_copyOf_102 : decode cX8_copyOf 102 = .ok (.getfield 35, 3) := by decide +kernel
theorem dX8_copyOf_105 : decode cX8_copyOf 105 = .ok (.iconst 0, 1) := by decide +kernel
theorem dX8_copyOf_106 : decode cX8_copyOf 106 = .ok (.aload_n 0, 1) := by decide +kernel
theorem dX8_copyOf_107 : decode cX8_copyOf 107 = .ok (.getfield 35, 3) := by decide +kernel
theorem dX8_copyOf_110 : decode cX8_copyOf 110 = .ok (.arraylength, 1) := by decide +kernel
theorem dX8_copyOf_111 : decode cX8_copyOf 111 = .ok (.invokestatic 50, 3) := by decide +kernel
theorem dX8_copyOf_114 : decode cX8_copyOf 114 = .ok (.aload_n 1, 1) := by decide +kernel
theorem dX8_copyOf_115 : decode cX8_copyOf 115 = .ok (.getfield 38, 3) := by decide +kernel
theorem dX8_copyOf_118 : decode cX8_copyOf 118 = .ok (.iconst 0, 1) := by decide +kernel
theorem dX8_copyOf_119 : decode cX8_copyOf 119 = .ok (.aload_n 0, 1) := by decide +kernel
theorem dX8_copyOf_120 : decode cX8_copyOf 120 = .ok (.getfield 38, 3) := by decide +kernel
theorem dX8_copyOf_123 : decode cX8_copyOf 123 = .ok (.iconst 0, 1) := by decide +kernel
theorem dX8_copyOf_124 : decode cX8_copyOf 124 = .ok (.aload_n 0, 1) := by decide +kernel
theorem dX8_copyOf_125 : decode cX8_copyOf 125 = .ok (.getfield 38, 3) := by decide +kernel
theorem dX8_copyOf_128 : decode cX8_copyOf 128 = .ok (.arraylength, 1) := by decide +kernel
theorem dX8_copyOf_129 : decode cX8_copyOf 129 = .ok (.invokestatic 50, 3) := by decide +kernel
theorem dX8_copyOf_132 : decode cX8_copyOf 132 = .ok (.aload_n 1, 1) := by decide +kernel
theorem dX8_copyOf_133 : decode cX8_copyOf 133 = .ok (.getfield 41, 3) := by decide +kernel
theorem dX8_copyOf_136 : decode cX8_copyOf 136 = .ok (.iconst 0, 1) := by decide +kernel
theorem dX8_copyOf_137 : decode cX8_copyOf 137 = .ok (.aload_n 0, 1) := by decide +kernel
theorem dX8_copyOf_138 : decode cX8_copyOf 138 = .ok (.getfield 41, 3) := by decide +kernel
theorem dX8_copyOf_141 : decode cX8_copyOf 141 = .ok (.iconst 0, 1) := by decide +kernel
theorem dX8_copyOf_142 : decode cX8_copyOf 142 = .ok (.aload_n 0, 1) := by decide +kernel
theorem dX8_copyOf_143 : decode cX8_copyOf 143 = .ok (.getfield 41, 3) := by decide +kernel
theorem dX8_copyOf_146 : decode cX8_copyOf 146 = .ok (.arraylength, 1) := by decide +kernel
theorem dX8_copyOf_147 : decode cX8_copyOf 147 = .ok (.invokestatic 50, 3) := by decide +kernel
theorem dX8_copyOf_150 : decode cX8_copyOf 150 = .ok (.aload_n 1, 1) := by decide +kernel
theorem dX8_copyOf_151 : decode cX8_copyOf 151 = .ok (.getfield 44, 3) := by decide +kernel
theorem dX8_copyOf_154 : decode cX8_copyOf 154 = .ok (.iconst 0, 1) := by decide +kernel
theorem dX8_copyOf_155 : decode cX8_copyOf 155 = .ok (.aload_n 0, 1) := by decide +kernel
theorem dX8_copyOf_156 : decode cX8_copyOf 156 = .ok (.getfield 44, 3) := by decide +kernel
theorem dX8_copyOf_159 : decode cX8_copyOf 159 = .ok (.iconst 0, 1) := by decide +kernel
theorem dX8_copyOf_160 : decode cX8_copyOf 160 = .ok (.aload_n 0, 1) := by decide +kernel
theorem dX8_copyOf_161 : decode cX8_copyOf 161 = .ok (.getfield 44, 3) := by decide +kernel
theorem dX8_copyOf_164 : decode cX8_copyOf 164 = .ok (.arraylength, 1) := by decide +kernel
theorem dX8_copyOf_165 : decode cX8_copyOf 165 = .ok (.invokestatic 50, 3) := by decide +kernel
theorem dX8_copyOf_168 : decode cX8_copyOf 168 = .ok (.return_, 1) := by decide +kernel
def D_X8_copyOf (N : Nat) (h : mh_H) (l0 : Nat) (l1 : Nat) : Option mh_H :=
  (gI h 8 l1 0).bind fun v1 =>
  (pI h 8 l0 0 v1).bind fun h2 =>
  (gI h2 8 l1 1).bind fun v3 =>
  (pB h2 8 l0 1 v3).bind fun h4 =>
  (gI h4 8 l1 2).bind fun v5 =>
  (pI h4 8 l0 2 v5).bind fun h6 =>
  (gR h6 8 l1 3).bind fun v7 =>
  (gR h6 8 l0 3).bind fun v8 =>
  (gR h6 8 l0 3).bind fun v9 =>
  (aL h6 v9).bind fun v10 =>
  (cP h6 v7 v8 (0 : Int32) (0 : Int32) v10).bind fun h11 =>
  (gR h11 8 l1 4).bind fun v12 =>
  (gR h11 8 l0 4).bind fun v13 =>
  (gR h11 8 l0 4).bind fun v14 =>
  (aL h11 v14).bind fun v15 =>
  (cP h11 v12 v13 (0 : Int32) (0 : Int32) v15).bind fun h16 =>
  (gR h16 8 l1 5).bind fun v17 =>
  (gR h16 8 l0 5).bind fun v18 =>
  (gR h16 8 l0 5).bind fun v19 =>
  (aL h16 v19).bind fun v20 =>
  (cP h16 v17 v18 (0 : Int32) (0 : Int32) v20).bind fun h21 =>
  (gR h21 8 l1 6).bind fun v22 =>
  (gR h21 8 l0 6).bind fun v23 =>
  (gR h21 8 l0 6).bind fun v24 =>
  (aL h21 v24).bind fun v25 =>
  (cP h21 v22 v23 (0 : Int32) (0 : Int32) v25).bind fun h26 =>
  (gR h26 8 l1 7).bind fun v27 =>
  (gR h26 8 l0 7).bind fun v28 =>
  (gR h26 8 l0 7).bind fun v29 =>
  (aL h26 v29).bind fun v30 =>
  (cP h26 v27 v28 (0 : Int32) (0 : Int32) v30).bind fun h31 =>
  (gR h31 8 l1 8).bind fun v32 =>
  (gR h31 8 l0 8).bind fun v33 =>
  (gR h31 8 l0 8).bind fun v34 =>
  (aL h31 v34).bind fun v35 =>
  (cP h31 v32 v33 (0 : Int32) (0 : Int32) v35).bind fun h36 =>
  (gR h36 8 l1 9).bind fun v37 =>
  (gR h36 8 l0 9).bind fun v38 =>
  (gR h36 8 l0 9).bind fun v39 =>
  (aL h36 v39).bind fun v40 =>
  (cP h36 v37 v38 (0 : Int32) (0 : Int32) v40).bind fun h41 =>
  (gR h41 8 l1 10).bind fun v42 =>
  (gR h41 8 l0 10).bind fun v43 =>
  (gR h41 8 l0 10).bind fun v44 =>
  (aL h41 v44).bind fun v45 =>
  (cP h41 v42 v43 (0 : Int32) (0 : Int32) v45).bind fun h46 =>
  some h46
set_option maxHeartbeats 4000000 in
set_option maxRecDepth 100000 in
theorem T_X8_copyOf {P : mh_E → Prop} {N d : Nat} (hd : 1 ≤ d) {z : mh_H} {h : mh_H} {l0 : Nat} {l1 : Nat} (hq : D_X8_copyOf N h l0 l1 = some z) : mh_go P d mX8_copyOf 0 [some (.ref l0), some (.ref l1)] [] h none z := by
  unfold D_X8_copyOf at hq
  refine st_aload_n (pc := 0) dX8_copyOf_0 rfl ?_
  refine st_aload_n (pc := 1) dX8_copyOf_1 rfl ?_
  refine bd_geti (pc := 2) hq dX8_copyOf_2 fl_8_9_8 rfl (fun v1 hq => ?_)
  refine bd_puti (pc := 5) hq dX8_copyOf_5 fl_8_9_8 (Or.inl rfl) rfl (fun h2 hq => ?_)
  refine st_aload_n (pc := 8) dX8_copyOf_8 rfl ?_
  refine st_aload_n (pc := 9) dX8_copyOf_9 rfl ?_
  refine bd_geti (pc := 10) hq dX8_copyOf_10 fl_8_15_8 rfl (fun v3 hq => ?_)
  refine bd_putb (pc := 13) hq dX8_copyOf_13 fl_8_15_8 (Or.inl rfl) rfl (fun h4 hq => ?_)
  refine st_aload_n (pc := 16) dX8_copyOf_16 rfl ?_
  refine st_aload_n (pc := 17) dX8_copyOf_17 rfl ?_
  refine bd_geti (pc := 18) hq dX8_copyOf_18 fl_8_19_8 rfl (fun v5 hq => ?_)
  refine bd_puti (pc := 21) hq dX8_copyOf_21 fl_8_19_8 (Or.inl rfl) rfl (fun h6 hq => ?_)
  refine st_aload_n (pc := 24) dX8_copyOf_24 rfl ?_
  refine bd_getr (pc := 25) hq dX8_copyOf_25 fl_8_22_8 rfl (fun v7 hq => ?_)
  refine st_iconst (pc := 28) (v := (0 : Int32)) dX8_copyOf_28 rfl ?_
  refine st_aload_n (pc := 29) dX8_copyOf_29 rfl ?_
  refine bd_getr (pc := 30) hq dX8_copyOf_30 fl_8_22_8 rfl (fun v8 hq => ?_)
  refine st_iconst (pc := 33) (v := (0 : Int32)) dX8_copyOf_33 rfl ?_
  refine st_aload_n (pc := 34) dX8_copyOf_34 rfl ?_
  refine bd_getr (pc := 35) hq dX8_copyOf_35 fl_8_22_8 rfl (fun v9 hq => ?_)
  refine bd_alen (pc := 38) hq dX8_copyOf_38 (fun v10 hq => ?_)
  refine bd_copy (pc := 39) hq dX8_copyOf_39 wd_764 wd_766 wd_765 wd_21 (Nat.le_trans (by decide) hd) (Nat.le_of_ble_eq_true rfl) (fun h11 hq => ?_)
  refine st_aload_n (pc := 42) dX8_copyOf_42 rfl ?_
  refine bd_getr (pc := 43) hq dX8_copyOf_43 fl_8_26_8 rfl (fun v12 hq => ?_)
  refine st_iconst (pc := 46) (v := (0 : Int32)) dX8_copyOf_46 rfl ?_
  refine st_aload_n (pc := 47) dX8_copyOf_47 rfl ?_
  refine bd_getr (pc := 48) hq dX8_copyOf_48 fl_8_26_8 rfl (fun v13 hq => ?_)
  refine st_iconst (pc := 51) (v := (0 : Int32)) dX8_copyOf_51 rfl ?_
  refine st_aload_n (pc := 52) dX8_copyOf_52 rfl ?_
  refine bd_getr (pc := 53) hq dX8_copyOf_53 fl_8_26_8 rfl (fun v14 hq => ?_)
  refine bd_alen (pc := 56) hq dX8_copyOf_56 (fun v15 hq => ?_)
  refine bd_copy (pc := 57) hq dX8_copyOf_57 wd_764 wd_766 wd_765 wd_21 (Nat.le_trans (by decide) hd) (Nat.le_of_ble_eq_true rfl) (fun h16 hq => ?_)
  refine st_aload_n (pc := 60) dX8_copyOf_60 rfl ?_
  refine bd_getr (pc := 61) hq dX8_copyOf_61 fl_8_29_8 rfl (fun v17 hq => ?_)
  refine st_iconst (pc := 64) (v := (0 : Int32)) dX8_copyOf_64 rfl ?_
  refine st_aload_n (pc := 65) dX8_copyOf_65 rfl ?_
  refine bd_getr (pc := 66) hq dX8_copyOf_66 fl_8_29_8 rfl (fun v18 hq => ?_)
  refine st_iconst (pc := 69) (v := (0 : Int32)) dX8_copyOf_69 rfl ?_
  refine st_aload_n (pc := 70) dX8_copyOf_70 rfl ?_
  refine bd_getr (pc := 71) hq dX8_copyOf_71 fl_8_29_8 rfl (fun v19 hq => ?_)
  refine bd_alen (pc := 74) hq dX8_copyOf_74 (fun v20 hq => ?_)
  refine bd_copy (pc := 75) hq dX8_copyOf_75 wd_764 wd_766 wd_765 wd_21 (Nat.le_trans (by decide) hd) (Nat.le_of_ble_eq_true rfl) (fun h21 hq => ?_)
  refine st_aload_n (pc := 78) dX8_copyOf_78 rfl ?_
  refine bd_getr (pc := 79) hq dX8_copyOf_79 fl_8_32_8 rfl (fun v22 hq => ?_)
  refine st_iconst (pc := 82) (v := (0 : Int32)) dX8_copyOf_82 rfl ?_
  refine st_aload_n (pc := 83) dX8_copyOf_83 rfl ?_
  refine bd_getr (pc := 84) hq dX8_copyOf_84 fl_8_32_8 rfl (fun v23 hq => ?_)
  refine st_iconst (pc := 87) (v := (0 : Int32)) dX8_copyOf_87 rfl ?_
  refine st_aload_n (pc := 88) dX8_copyOf_88 rfl ?_
  refine bd_getr (pc := 89) hq dX8_copyOf_89 fl_8_32_8 rfl (fun v24 hq => ?_)
  refine bd_alen (pc := 92) hq dX8_copyOf_92 (fun v25 hq => ?_)
  refine bd_copy (pc := 93) hq dX8_copyOf_93 wd_764 wd_766 wd_765 wd_21 (Nat.le_trans (by decide) hd) (Nat.le_of_ble_eq_true rfl) (fun h26 hq => ?_)
  refine st_aload_n (pc := 96) dX8_copyOf_96 rfl ?_
  refine bd_getr (pc := 97) hq dX8_copyOf_97 fl_8_35_8 rfl (fun v27 hq => ?_)
  refine st_iconst (pc := 100) (v := (0 : Int32)) dX8_copyOf_100 rfl ?_
  refine st_aload_n (pc := 101) dX8_copyOf_101 rfl ?_
  refine bd_getr (pc := 102) hq dX8_copyOf_102 fl_8_35_8 rfl (fun v28 hq => ?_)
  refine st_iconst (pc := 105) (v := (0 : Int32)) dX8_copyOf_105 rfl ?_
  refine st_aload_n (pc := 106) dX8_copyOf_106 rfl ?_
  refine bd_getr (pc := 107) hq dX8_copyOf_107 fl_8_35_8 rfl (fun v29 hq => ?_)
  refine bd_alen (pc := 110) hq dX8_copyOf_110 (fun v30 hq => ?_)
  refine bd_copy (pc := 111) hq dX8_copyOf_111 wd_764 wd_766 wd_765 wd_21 (Nat.le_trans (by decide) hd) (Nat.le_of_ble_eq_true rfl) (fun h31 hq => ?_)
  refine st_aload_n (pc := 114) dX8_copyOf_114 rfl ?_
  refine bd_getr (pc := 115) hq dX8_copyOf_115 fl_8_38_8 rfl (fun v32 hq => ?_)
  refine st_iconst (pc := 118) (v := (0 : Int32)) dX8_copyOf_118 rfl ?_
  refine st_aload_n (pc := 119) dX8_copyOf_119 rfl ?_
  refine bd_getr (pc := 120) hq dX8_copyOf_120 fl_8_38_8 rfl (fun v33 hq => ?_)
  refine st_iconst (pc := 123) (v := (0 : Int32)) dX8_copyOf_123 rfl ?_
  refine st_aload_n (pc := 124) dX8_copyOf_124 rfl ?_
  refine bd_getr (pc := 125) hq dX8_copyOf_125 fl_8_38_8 rfl (fun v34 hq => ?_)
  refine bd_alen (pc := 128) hq dX8_copyOf_128 (fun v35 hq => ?_)
  refine bd_copy (pc := 129) hq dX8_copyOf_129 wd_764 wd_766 wd_765 wd_21 (Nat.le_trans (by decide) hd) (Nat.le_of_ble_eq_true rfl) (fun h36 hq => ?_)
  refine st_aload_n (pc := 132) dX8_copyOf_132 rfl ?_
  refine bd_getr (pc := 133) hq dX8_copyOf_133 fl_8_41_8 rfl (fun v37 hq => ?_)
  refine st_iconst (pc := 136) (v := (0 : Int32)) dX8_copyOf_136 rfl ?_
  refine st_aload_n (pc := 137) dX8_copyOf_137 rfl ?_
  refine bd_getr (pc := 138) hq dX8_copyOf_138 fl_8_41_8 rfl (fun v38 hq => ?_)
  refine st_iconst (pc := 141) (v := (0 : Int32)) dX8_copyOf_141 rfl ?_
  refine st_aload_n (pc := 142) dX8_copyOf_142 rfl ?_
  refine bd_getr (pc := 143) hq dX8_copyOf_143 fl_8_41_8 rfl (fun v39 hq => ?_)
  refine bd_alen (pc := 146) hq dX8_copyOf_146 (fun v40 hq => ?_)
  refine bd_copy (pc := 147) hq dX8_copyOf_147 wd_764 wd_766 wd_765 wd_21 (Nat.le_trans (by decide) hd) (Nat.le_of_ble_eq_true rfl) (fun h41 hq => ?_)
  refine st_aload_n (pc := 150) dX8_copyOf_150 rfl ?_
  refine bd_getr (pc := 151) hq dX8_copyOf_151 fl_8_44_8 rfl (fun v42 hq => ?_)
  refine st_iconst (pc := 154) (v := (0 : Int32)) dX8_copyOf_154 rfl ?_
  refine st_aload_n (pc := 155) dX8_copyOf_155 rfl ?_
  refine bd_getr (pc := 156) hq dX8_copyOf_156 fl_8_44_8 rfl (fun v43 hq => ?_)
  refine st_iconst (pc := 159) (v := (0 : Int32)) dX8_copyOf_159 rfl ?_
  refine st_aload_n (pc := 160) dX8_copyOf_160 rfl ?_
  refine bd_getr (pc := 161) hq dX8_copyOf_161 fl_8_44_8 rfl (fun v44 hq => ?_)
  refine bd_alen (pc := 164) hq dX8_copyOf_164 (fun v45 hq => ?_)
  refine bd_copy (pc := 165) hq dX8_copyOf_165 wd_764 wd_766 wd_765 wd_21 (Nat.le_trans (by decide) hd) (Nat.le_of_ble_eq_true rfl) (fun h46 hq => ?_)
  exact bd_vret (pc := 168) hq dX8_copyOf_168 rfl
-- HoleWater$Water.startSpill(LHoleWater$Water;II)V
theorem dX8_startSpill_68 : decode cX8_startSpill 68 = .ok (.iload 5, 2) := by decide +kernel
theorem dX8_startSpill_70 : decode cX8_startSpill 70 = .ok (.aload_n 0, 1) := by decide +kernel
theorem dX8_startSpill_71 : decode cX8_startSpill 71 = .ok (.getfield 35, 3) := by decide +kernel
theorem dX8_startSpill_74 : decode cX8_startSpill 74 = .ok (.arraylength, 1) := by decide +kernel
theorem dX8_startSpill_75 : decode cX8_startSpill 75 = .ok (.if_icmp .ge 17, 3) := by decide +kernel
theorem dX8_startSpill_92 : decode cX8_startSpill 92 = .ok (.aload_n 0, 1) := by decide +kernel
theorem dX8_startSpill_93 : decode cX8_startSpill 93 = .ok (.getfield 29, 3) := by decide +kernel
theorem dX8_startSpill_96 : decode cX8_startSpill 96 = .ok (.iload_n 2, 1) := by decide +kernel
theorem dX8_startSpill_97 : decode cX8_startSpill 97 = .ok (.iconst 5, 1) := by decide +kernel
theorem dX8_startSpill_98 : decode cX8_startSpill 98 = .ok (.imul, 1) := by decide +kernel
theorem dX8_startSpill_99 : decode cX8_startSpill 99 = .ok (.iload 4, 2) := by decide +kernel
theorem dX8_startSpill_101 : decode cX8_startSpill 101 = .ok (.iadd, 1) := by decide +kernel
theorem dX8_startSpill_102 : decode cX8_startSpill 102 = .ok (.iload_n 3, 1) := by decide +kernel
theorem dX8_startSpill_103 : decode cX8_startSpill 103 = .ok (.iastore, 1) := by decide +kernel
theorem dX8_startSpill_104 : decode cX8_startSpill 104 = .ok (.return_, 1) := by decide +kernel
theorem dX8_startSpill_78 : decode cX8_startSpill 78 = .ok (.aload_n 0, 1) := by decide +kernel
theorem dX8_startSpill_79 : decode cX8_startSpill 79 = .ok (.getfield 35, 3) := by decide +kernel
theorem dX8_startSpill_82 : decode cX8_startSpill 82 = .ok (.iload 5, 2) := by decide +kernel
theorem dX8_startSpill_84 : decode cX8_startSpill 84 = .ok (.iconst 0, 1) := by decide +kernel
theorem dX8_startSpill_85 : decode cX8_startSpill 85 = .ok (.iastore, 1) := by decide +kernel
theorem dX8_startSpill_86 : decode cX8_startSpill 86 = .ok (.iinc 5 5, 3) := by decide +kernel
theorem dX8_startSpill_89 : decode cX8_startSpill 89 = .ok (.goto (-21), 3) := by decide +kernel
theorem dX8_startSpill_40 : decode cX8_startSpill 40 = .ok (.iload 5, 2) := by decide +kernel
theorem dX8_startSpill_42 : decode cX8_startSpill 42 = .ok (.aload_n 0, 1) := by decide +kernel
theorem dX8_startSpill_43 : decode cX8_startSpill 43 = .ok (.getfield 32, 3) := by decide +kernel
theorem dX8_startSpill_46 : decode cX8_startSpill 46 = .ok (.arraylength, 1) := by decide +kernel
theorem dX8_startSpill_47 : decode cX8_startSpill 47 = .ok (.if_icmp .ge 17, 3) := by decide +kernel
theorem dX8_startSpill_64 : decode cX8_startSpill 64 = .ok (.iload 4, 2) := by decide +kernel
theorem dX8_startSpill_66 : decode cX8_startSpill 66 = .ok (.istore 5, 2) := by decide +kernel
theorem dX8_startSpill_50 : decode cX8_startSpill 50 = .ok (.aload_n 0, 1) := by decide +kernel
theorem dX8_startSpill_51 : decode cX8_startSpill 51 = .ok (.getfield 32, 3) := by decide +kernel
theorem dX8_startSpill_54 : decode cX8_startSpill 54 = .ok (.iload 5, 2) := by decide +kernel
theorem dX8_startSpill_56 : decode cX8_startSpill 56 = .ok (.iconst 0, 1) := by decide +kernel
theorem dX8_startSpill_57 : decode cX8_startSpill 57 = .ok (.iastore, 1) := by decide +kernel
theorem dX8_startSpill_58 : decode cX8_startSpill 58 = .ok (.iinc 5 5, 3) := by decide +kernel
theorem dX8_startSpill_61 : decode cX8_startSpill 61 = .ok (.goto (-21), 3) := by decide +kernel
theorem dX8_startSpill_12 : decode cX8_startSpill 12 = .ok (.iload 5, 2) := by decide +kernel
theorem dX8_startSpill_14 : decode cX8_startSpill 14 = .ok (.aload_n 0, 1) := by decide +kernel
theorem dX8_startSpill_15 : decode cX8_startSpill 15 = .ok (.getfield 29, 3) := by decide +kernel
theorem dX8_startSpill_18 : decode cX8_startSpill 18 = .ok (.arraylength, 1) := by decide +kernel
theorem dX8_startSpill_19 : decode cX8_startSpill 19 = .ok (.if_icmp .ge 17, 3) := by decide +kernel
theorem dX8_startSpill_36 : decode cX8_startSpill 36 = .ok (.iload 4, 2) := by decide +kernel
theorem dX8_startSpill_38 : decode cX8_startSpill 38 = .ok (.istore 5, 2) := by decide +kernel
theorem dX8_startSpill_22 : decode cX8_startSpill 22 = .ok (.aload_n 0, 1) := by decide +kernel
theorem dX8_startSpill_23 : decode cX8_startSpill 23 = .ok (.getfield 29, 3) := by decide +kernel
theorem dX8_startSpill_26 : decode cX8_startSpill 26 = .ok (.iload 5, 2) := by decide +kernel
theorem dX8_startSpill_28 : decode cX8_startSpill 28 = .ok (.iconst 0, 1) := by decide +kernel
theorem dX8_startSpill_29 : decode cX8_startSpill 29 = .ok (.iastore, 1) := by decide +kernel
theorem dX8_startSpill_30 : decode cX8_startSpill 30 = .ok (.iinc 5 5, 3) := by decide +kernel
theorem dX8_startSpill_33 : decode cX8_startSpill 33 = .ok (.goto (-21), 3) := by decide +kernel
theorem dX8_startSpill_0 : decode cX8_startSpill 0 = .ok (.aload_n 0, 1) := by decide +kernel
theorem dX8_startSpill_1 : decode cX8_startSpill 1 = .ok (.aload_n 1, 1) := by decide +kernel
theorem dX8_startSpill_2 : decode cX8_startSpill 2 = .ok (.invokevirtual 56, 3) := by decide +kernel
theorem dX8_startSpill_5 : decode cX8_startSpill 5 = .ok (.iconst 4, 1) := by decide +kernel
theorem dX8_startSpill_6 : decode cX8_startSpill 6 = .ok (.istore 4, 2) := by decide +kernel
theorem dX8_startSpill_8 : decode cX8_startSpill 8 = .ok (.iload 4, 2) := by decide +kernel
theorem dX8_startSpill_10 : decode cX8_startSpill 10 = .ok (.istore 5, 2) := by decide +kernel
def D_X8_startSpill_68 (N : Nat) : Nat → mh_H → Nat → Int32 → Int32 → Int32 → Int32 → Option mh_H
  | 0, _, _, _, _, _, _ => none
  | F + 1, h, l0, l2, l3, l4, l5 =>
    (gR h 8 l0 7).bind fun v1 =>
    (aL h v1).bind fun v2 =>
    if v2 ≤ l5 then ((gR h 8 l0 5).bind fun v3 =>
    (uI h v3 ((l2 * (5 : Int32)) + l4) l3).bind fun h4 =>
    some h4)
    else ((gR h 8 l0 7).bind fun v3 =>
    (uI h v3 l5 (0 : Int32)).bind fun h4 =>
    (D_X8_startSpill_68 N F) h4 l0 l2 l3 l4 (l5 + Int32.ofInt (5)))
set_option maxHeartbeats 4000000 in
set_option maxRecDepth 100000 in
theorem T_X8_startSpill_68 {P : mh_E → Prop} {N d : Nat} (hd : 2 ≤ d) {z : mh_H} : ∀ (F : Nat) (h : mh_H) (l0 : Nat) (l2 : Int32) (l3 : Int32) (l4 : Int32) (l5 : Int32), D_X8_startSpill_68 N F h l0 l2 l3 l4 l5 = some z → mh_go P d mX8_startSpill 68 [some (.ref l0), none, some (.int l2), some (.int l3), some (.int l4), some (.int l5)] [] h none z := by
  intro F
  induction F with
  | zero => intro h l0 l2 l3 l4 l5 hq; rw [D_X8_startSpill_68] at hq; cases hq
  | succ F ih =>
    intro h l0 l2 l3 l4 l5 hq
    rw [D_X8_startSpill_68] at hq
    refine st_iload (pc := 68) dX8_startSpill_68 rfl ?_
    refine st_aload_n (pc := 70) dX8_startSpill_70 rfl ?_
    refine bd_getr (pc := 71) hq dX8_startSpill_71 fl_8_35_8 rfl (fun v1 hq => ?_)
    refine bd_alen (pc := 74) hq dX8_startSpill_74 (fun v2 hq => ?_)
    refine bd_icmp_ge (pc := 75) (tgt := 92) hq dX8_startSpill_75 (by decide) (fun _ hq => ?_) (fun _ hq => ?_)
    ·
      refine st_aload_n (pc := 92) dX8_startSpill_92 rfl ?_
      refine bd_getr (pc := 93) hq dX8_startSpill_93 fl_8_29_8 rfl (fun v3 hq => ?_)
      refine st_iload_n (pc := 96) dX8_startSpill_96 rfl ?_
      refine st_iconst (pc := 97) (v := (5 : Int32)) dX8_startSpill_97 rfl ?_
      refine st_imul (pc := 98) dX8_startSpill_98 ?_
      refine st_iload (pc := 99) dX8_startSpill_99 rfl ?_
      refine st_iadd (pc := 101) dX8_startSpill_101 ?_
      refine st_iload_n (pc := 102) dX8_startSpill_102 rfl ?_
      refine bd_iast (pc := 103) hq dX8_startSpill_103 (fun h4 hq => ?_)
      exact bd_vret (pc := 104) hq dX8_startSpill_104 rfl
    ·
      refine st_aload_n (pc := 78) dX8_startSpill_78 rfl ?_
      refine bd_getr (pc := 79) hq dX8_startSpill_79 fl_8_35_8 rfl (fun v3 hq => ?_)
      refine st_iload (pc := 82) dX8_startSpill_82 rfl ?_
      refine st_iconst (pc := 84) (v := (0 : Int32)) dX8_startSpill_84 rfl ?_
      refine bd_iast (pc := 85) hq dX8_startSpill_85 (fun h4 hq => ?_)
      refine st_iinc (pc := 86) (lv' := [some (.ref l0), none, some (.int l2), some (.int l3), some (.int l4), some (.int (l5 + Int32.ofInt (5)))]) dX8_startSpill_86 rfl rfl (by decide) rfl ?_
      refine st_goto (pc := 89) (tgt := 68) dX8_startSpill_89 (by decide) ?_
      exact ih _ _ _ _ _ _ hq
def D_X8_startSpill_40 (N : Nat) : Nat → mh_H → Nat → Int32 → Int32 → Int32 → Int32 → Option mh_H
  | 0, _, _, _, _, _, _ => none
  | F + 1, h, l0, l2, l3, l4, l5 =>
    (gR h 8 l0 6).bind fun v1 =>
    (aL h v1).bind fun v2 =>
    if v2 ≤ l5 then (D_X8_startSpill_68 N N h l0 l2 l3 l4 l4)
    else ((gR h 8 l0 6).bind fun v3 =>
    (uI h v3 l5 (0 : Int32)).bind fun h4 =>
    (D_X8_startSpill_40 N F) h4 l0 l2 l3 l4 (l5 + Int32.ofInt (5)))
set_option maxHeartbeats 4000000 in
set_option maxRecDepth 100000 in
theorem T_X8_startSpill_40 {P : mh_E → Prop} {N d : Nat} (hd : 2 ≤ d) {z : mh_H} : ∀ (F : Nat) (h : mh_H) (l0 : Nat) (l2 : Int32) (l3 : Int32) (l4 : Int32) (l5 : Int32), D_X8_startSpill_40 N F h l0 l2 l3 l4 l5 = some z → mh_go P d mX8_startSpill 40 [some (.ref l0), none, some (.int l2), some (.int l3), some (.int l4), some (.int l5)] [] h none z := by
  intro F
  induction F with
  | zero => intro h l0 l2 l3 l4 l5 hq; rw [D_X8_startSpill_40] at hq; cases hq
  | succ F ih =>
    intro h l0 l2 l3 l4 l5 hq
    rw [D_X8_startSpill_40] at hq
    refine st_iload (pc := 40) dX8_startSpill_40 rfl ?_
    refine st_aload_n (pc := 42) dX8_startSpill_42 rfl ?_
    refine bd_getr (pc := 43) hq dX8_startSpill_43 fl_8_32_8 rfl (fun v1 hq => ?_)
    refine bd_alen (pc := 46) hq dX8_startSpill_46 (fun v2 hq => ?_)
    refine bd_icmp_ge (pc := 47) (tgt := 64) hq dX8_startSpill_47 (by decide) (fun _ hq => ?_) (fun _ hq => ?_)
    ·
      refine st_iload (pc := 64) dX8_startSpill_64 rfl ?_
      refine st_istore (pc := 66) (lv' := [some (.ref l0), none, some (.int l2), some (.int l3), some (.int l4), some (.int l4)]) dX8_startSpill_66 rfl (by decide) rfl ?_
      exact T_X8_startSpill_68 hd N _ _ _ _ _ _ hq
    ·
      refine st_aload_n (pc := 50) dX8_startSpill_50 rfl ?_
      refine bd_getr (pc := 51) hq dX8_startSpill_51 fl_8_32_8 rfl (fun v3 hq => ?_)
      refine st_iload (pc := 54) dX8_startSpill_54 rfl ?_
      refine st_iconst (pc := 56) (v := (0 : Int32)) dX8_startSpill_56 rfl ?_
      refine bd_iast (pc := 57) hq dX8_startSpill_57 (fun h4 hq => ?_)
      refine st_iinc (pc := 58) (lv' := [some (.ref l0), none, some (.int l2), some (.int l3), some (.int l4), some (.int (l5 + Int32.ofInt (5)))]) dX8_startSpill_58 rfl rfl (by decide) rfl ?_
      refine st_goto (pc := 61) (tgt := 40) dX8_startSpill_61 (by decide) ?_
      exact ih _ _ _ _ _ _ hq
def D_X8_startSpill_12 (N : Nat) : Nat → mh_H → Nat → Int32 → Int32 → Int32 → Int32 → Option mh_H
  | 0, _, _, _, _, _, _ => none
  | F + 1, h, l0, l2, l3, l4, l5 =>
    (gR h 8 l0 5).bind fun v1 =>
    (aL h v1).bind fun v2 =>
    if v2 ≤ l5 then (D_X8_startSpill_40 N N h l0 l2 l3 l4 l4)
    else ((gR h 8 l0 5).bind fun v3 =>
    (uI h v3 l5 (0 : Int32)).bind fun h4 =>
    (D_X8_startSpill_12 N F) h4 l0 l2 l3 l4 (l5 + Int32.ofInt (5)))
set_option maxHeartbeats 4000000 in
set_option maxRecDepth 100000 in
theorem T_X8_startSpill_12 {P : mh_E → Prop} {N d : Nat} (hd : 2 ≤ d) {z : mh_H} : ∀ (F : Nat) (h : mh_H) (l0 : Nat) (l2 : Int32) (l3 : Int32) (l4 : Int32) (l5 : Int32), D_X8_startSpill_12 N F h l0 l2 l3 l4 l5 = some z → mh_go P d mX8_startSpill 12 [some (.ref l0), none, some (.int l2), some (.int l3), some (.int l4), some (.int l5)] [] h none z := by
  intro F
  induction F with
  | zero => intro h l0 l2 l3 l4 l5 hq; rw [D_X8_startSpill_12] at hq; cases hq
  | succ F ih =>
    intro h l0 l2 l3 l4 l5 hq
    rw [D_X8_startSpill_12] at hq
    refine st_iload (pc := 12) dX8_startSpill_12 rfl ?_
    refine st_aload_n (pc := 14) dX8_startSpill_14 rfl ?_
    refine bd_getr (pc := 15) hq dX8_startSpill_15 fl_8_29_8 rfl (fun v1 hq => ?_)
    refine bd_alen (pc := 18) hq dX8_startSpill_18 (fun v2 hq => ?_)
    refine bd_icmp_ge (pc := 19) (tgt := 36) hq dX8_startSpill_19 (by decide) (fun _ hq => ?_) (fun _ hq => ?_)
    ·
      refine st_iload (pc := 36) dX8_startSpill_36 rfl ?_
      refine st_istore (pc := 38) (lv' := [some (.ref l0), none, some (.int l2), some (.int l3), some (.int l4), some (.int l4)]) dX8_startSpill_38 rfl (by decide) rfl ?_
      exact T_X8_startSpill_40 hd N _ _ _ _ _ _ hq
    ·
      refine st_aload_n (pc := 22) dX8_startSpill_22 rfl ?_
      refine bd_getr (pc := 23) hq dX8_startSpill_23 fl_8_29_8 rfl (fun v3 hq => ?_)
      refine st_iload (pc := 26) dX8_startSpill_26 rfl ?_
      refine st_iconst (pc := 28) (v := (0 : Int32)) dX8_startSpill_28 rfl ?_
      refine bd_iast (pc := 29) hq dX8_startSpill_29 (fun h4 hq => ?_)
      refine st_iinc (pc := 30) (lv' := [some (.ref l0), none, some (.int l2), some (.int l3), some (.int l4), some (.int (l5 + Int32.ofInt (5)))]) dX8_startSpill_30 rfl rfl (by decide) rfl ?_
      refine st_goto (pc := 33) (tgt := 12) dX8_startSpill_33 (by decide) ?_
      exact ih _ _ _ _ _ _ hq
def D_X8_startSpill (N : Nat) (h : mh_H) (l0 : Nat) (l1 : Nat) (l2 : Int32) (l3 : Int32) : Option mh_H :=
  kO h 8 l0 <|
  (D_X8_copyOf N h l0 l1).bind fun q1 =>
  D_X8_startSpill_12 N N q1 l0 l2 l3 (4 : Int32) (4 : Int32)
set_option maxHeartbeats 4000000 in
set_option maxRecDepth 100000 in
theorem T_X8_startSpill {P : mh_E → Prop} {N d : Nat} (hd : 2 ≤ d) {z : mh_H} {h : mh_H} {l0 : Nat} {l1 : Nat} {l2 : Int32} {l3 : Int32} (hq : D_X8_startSpill N h l0 l1 l2 l3 = some z) : mh_go P d mX8_startSpill 0 [some (.ref l0), some (.ref l1), some (.int l2), some (.int l3), none, none] [] h none z := by
  unfold D_X8_startSpill at hq
  refine st_aload_n (pc := 0) dX8_startSpill_0 rfl ?_
  refine st_aload_n (pc := 1) dX8_startSpill_1 rfl ?_
  obtain ⟨⟨hbq1, hkq1⟩, hq⟩ := mh_oi hq
  obtain ⟨q1, e1, hq⟩ := mh_ob hq
  refine st_invV (pc := 2) (ci := 8) (vs := [.ref l1]) (rest := []) (st2 := []) dX8_startSpill_2 okX8_copyOf (by decide) hkq1 hbq1 wd_760 wd_761 wd_762 pdX8_copyOf rfl rfl rfl rfl (Nat.le_trans (by decide) hd) (Nat.le_of_ble_eq_true rfl) (T_X8_copyOf (Nat.le_refl _) e1) rfl ?_
  refine st_iconst (pc := 5) (v := (4 : Int32)) dX8_startSpill_5 rfl ?_
  refine st_istore (pc := 6) (lv' := [some (.ref l0), some (.ref l1), some (.int l2), some (.int l3), some (.int (4 : Int32)), none]) dX8_startSpill_6 rfl (by decide) rfl ?_
  refine st_iload (pc := 8) dX8_startSpill_8 rfl ?_
  refine st_istore (pc := 10) (lv' := [some (.ref l0), some (.ref l1), some (.int l2), some (.int l3), some (.int (4 : Int32)), some (.int (4 : Int32))]) dX8_startSpill_10 rfl (by decide) rfl ?_
  refine st_lesS (lv' := [some (.ref l0), none, some (.int l2), some (.int l3), some (.int (4 : Int32)), some (.int (4 : Int32))]) ⟨Or.inr rfl, Or.inl rfl, Or.inr rfl, Or.inr rfl, Or.inr rfl, Or.inr rfl, trivial⟩ ?_
  exact T_X8_startSpill_12 hd N _ _ _ _ _ _ hq
-- HoleWater.spill(IIII)I
theorem dX11_spill_26 : decode cX11_spill 26 = .ok (.aload_n 0, 1) := by decide +kernel
theorem dX11_spill_27 : decode cX11_spill 27 = .ok (.iconst 1, 1) := by decide +kernel
theorem dX11_spill_28 : decode cX11_spill 28 = .ok (.invokevirtual 66, 3) := by decide +kernel
theorem dX11_spill_31 : decode cX11_spill 31 = .ok (.ireturn, 1) := by decide +kernel
theorem dX11_spill_66 : decode cX11_spill 66 = .ok (.iload 7, 2) := by decide +kernel
theorem dX11_spill_68 : decode cX11_spill 68 = .ok (.iload 4, 2) := by decide +kernel
theorem dX11_spill_70 : decode cX11_spill 70 = .ok (.if_icmp .ge 39, 3) := by decide +kernel
theorem dX11_spill_109 : decode cX11_spill 109 = .ok (.iload 6, 2) := by decide +kernel
theorem dX11_spill_111 : decode cX11_spill 111 = .ok (.ireturn, 1) := by decide +kernel
theorem dX11_spill_73 : decode cX11_spill 73 = .ok (.aload_n 0, 1) := by decide +kernel
theorem dX11_spill_74 : decode cX11_spill 74 = .ok (.getfield 22, 3) := by decide +kernel
theorem dX11_spill_77 : decode cX11_spill 77 = .ok (.aload_n 0, 1) := by decide +kernel
theorem dX11_spill_78 : decode cX11_spill 78 = .ok (.getfield 10, 3) := by decide +kernel
theorem dX11_spill_81 : decode cX11_spill 81 = .ok (.aload_n 0, 1) := by decide +kernel
theorem dX11_spill_82 : decode cX11_spill 82 = .ok (.getfield 29, 3) := by decide +kernel
theorem dX11_spill_85 : decode cX11_spill 85 = .ok (.invokevirtual 192, 3) := by decide +kernel
theorem dX11_spill_88 : decode cX11_spill 88 = .ok (.iload 6, 2) := by decide +kernel
theorem dX11_spill_90 : decode cX11_spill 90 = .ok (.aload_n 0, 1) := by decide +kernel
theorem dX11_spill_91 : decode cX11_spill 91 = .ok (.getfield 22, 3) := by decide +kernel
theorem dX11_spill_94 : decode cX11_spill 94 = .ok (.iload_n 3, 1) := by decide +kernel
theorem dX11_spill_95 : decode cX11_spill 95 = .ok (.iconst 3, 1) := by decide +kernel
theorem dX11_spill_96 : decode cX11_spill 96 = .ok (.iconst 1, 1) := by decide +kernel
theorem dX11_spill_97 : decode cX11_spill 97 = .ok (.invokevirtual 220, 3) := by decide +kernel
theorem dX11_spill_100 : decode cX11_spill 100 = .ok (.iadd, 1) := by decide +kernel
theorem dX11_spill_101 : decode cX11_spill 101 = .ok (.istore 6, 2) := by decide +kernel
theorem dX11_spill_103 : decode cX11_spill 103 = .ok (.iinc 7 1, 3) := by decide +kernel
theorem dX11_spill_106 : decode cX11_spill 106 = .ok (.goto (-40), 3) := by decide +kernel
theorem dX11_spill_0 : decode cX11_spill 0 = .ok (.aload_n 0, 1) := by decide +kernel
theorem dX11_spill_1 : decode cX11_spill 1 = .ok (.iload_n 1, 1) := by decide +kernel
theorem dX11_spill_2 : decode cX11_spill 2 = .ok (.iload_n 2, 1) := by decide +kernel
theorem dX11_spill_3 : decode cX11_spill 3 = .ok (.iload_n 3, 1) := by decide +kernel
theorem dX11_spill_4 : decode cX11_spill 4 = .ok (.invokevirtual 223, 3) := by decide +kernel
theorem dX11_spill_7 : decode cX11_spill 7 = .ok (.istore 5, 2) := by decide +kernel
theorem dX11_spill_9 : decode cX11_spill 9 = .ok (.iload 5, 2) := by decide +kernel
theorem dX11_spill_11 : decode cX11_spill 11 = .ok (.iconst 1, 1) := by decide +kernel
theorem dX11_spill_12 : decode cX11_spill 12 = .ok (.if_icmp .eq 14, 3) := by decide +kernel
theorem dX11_spill_15 : decode cX11_spill 15 = .ok (.iload 4, 2) := by decide +kernel
theorem dX11_spill_17 : decode cX11_spill 17 = .ok (.iconst 1, 1) := by decide +kernel
theorem dX11_spill_18 : decode cX11_spill 18 = .ok (.bipush 60, 2) := by decide +kernel
theorem dX11_spill_20 : decode cX11_spill 20 = .ok (.invokestatic 62, 3) := by decide +kernel
theorem dX11_spill_23 : decode cX11_spill 23 = .ok (.ifCond .ne 9, 3) := by decide +kernel
theorem dX11_spill_32 : decode cX11_spill 32 = .ok (.iload 5, 2) := by decide +kernel
theorem dX11_spill_34 : decode cX11_spill 34 = .ok (.ifCond .eq 10, 3) := by decide +kernel
theorem dX11_spill_44 : decode cX11_spill 44 = .ok (.aload_n 0, 1) := by decide +kernel
theorem dX11_spill_45 : decode cX11_spill 45 = .ok (.getfield 22, 3) := by decide +kernel
theorem dX11_spill_48 : decode cX11_spill 48 = .ok (.aload_n 0, 1) := by decide +kernel
theorem dX11_spill_49 : decode cX11_spill 49 = .ok (.getfield 10, 3) := by decide +kernel
theorem dX11_spill_52 : decode cX11_spill 52 = .ok (.getfield 90, 3) := by decide +kernel
theorem dX11_spill_55 : decode cX11_spill 55 = .ok (.iload_n 1, 1) := by decide +kernel
theorem dX11_spill_56 : decode cX11_spill 56 = .ok (.iload_n 2, 1) := by decide +kernel
theorem dX11_spill_57 : decode cX11_spill 57 = .ok (.invokevirtual 226, 3) := by decide +kernel
theorem dX11_spill_60 : decode cX11_spill 60 = .ok (.iconst 0, 1) := by decide +kernel
theorem dX11_spill_61 : decode cX11_spill 61 = .ok (.istore 6, 2) := by decide +kernel
theorem dX11_spill_63 : decode cX11_spill 63 = .ok (.iconst 0, 1) := by decide +kernel
theorem dX11_spill_64 : decode cX11_spill 64 = .ok (.istore 7, 2) := by decide +kernel
theorem dX11_spill_37 : decode cX11_spill 37 = .ok (.aload_n 0, 1) := by decide +kernel
theorem dX11_spill_38 : decode cX11_spill 38 = .ok (.iload 5, 2) := by decide +kernel
theorem dX11_spill_40 : decode cX11_spill 40 = .ok (.invokevirtual 66, 3) := by decide +kernel
theorem dX11_spill_43 : decode cX11_spill 43 = .ok (.ireturn, 1) := by decide +kernel
def D_X11_spill_26 (N : Nat) (h : mh_H) (l0 : Nat) : Option (Int32 × mh_H) :=
  kO h 11 l0 <|
  (D_X11_error N h l0 (1 : Int32)).bind fun q1 =>
  some (q1.1, q1.2)
set_option maxHeartbeats 4000000 in
set_option maxRecDepth 100000 in
theorem T_X11_spill_26 {P : mh_E → Prop} {N d : Nat} (hd : 48 ≤ d) {z : (Int32 × mh_H)} {h : mh_H} {l0 : Nat} (hq : D_X11_spill_26 N h l0 = some z) : mh_go P d mX11_spill 26 [some (.ref l0), none, none, none, none, none, none, none] [] h (some (.int z.1)) z.2 := by
  unfold D_X11_spill_26 at hq
  refine st_aload_n (pc := 26) dX11_spill_26 rfl ?_
  refine st_iconst (pc := 27) (v := (1 : Int32)) dX11_spill_27 rfl ?_
  obtain ⟨⟨hbq1, hkq1⟩, hq⟩ := mh_oi hq
  obtain ⟨q1, e1, hq⟩ := mh_ob hq
  refine st_invV (pc := 28) (ci := 11) (vs := [.int (1 : Int32)]) (rest := []) (st2 := [.int q1.1]) dX11_spill_28 okX11_error (by decide) hkq1 hbq1 wd_314 wd_316 wp_0 pdX11_error rfl rfl rfl rfl (Nat.le_trans (by decide) hd) (Nat.le_of_ble_eq_true rfl) (T_X11_error (Nat.le_refl _) e1) rfl ?_
  exact bd_iret (pc := 31) hq dX11_spill_31 rfl
def D_X11_spill_66 (N : Nat) : Nat → mh_H → Nat → Int32 → Int32 → Int32 → Int32 → Option (Int32 × mh_H)
  | 0, _, _, _, _, _, _ => none
  | F + 1, h, l0, l3, l4, l6, l7 =>
    if l4 ≤ l7 then (some (l6, h))
    else ((gR h 11 l0 2).bind fun v1 =>
    (gR h 11 l0 0).bind fun v2 =>
    (gR h 11 l0 3).bind fun v3 =>
    kO h 8 v1 <|
    (D_X8_passHour N h v1 v2 v3).bind fun q4 =>
    (gR q4 11 l0 2).bind fun v5 =>
    kO q4 8 v5 <|
    (D_X8_cameOut N q4 v5 l3 (3 : Int32) (1 : Int32)).bind fun q6 =>
    (D_X11_spill_66 N F) q6.2 l0 l3 l4 (l6 + q6.1) (l7 + Int32.ofInt (1)))
set_option maxHeartbeats 4000000 in
set_option maxRecDepth 100000 in
theorem T_X11_spill_66 {P : mh_E → Prop} {N d : Nat} (hd : 48 ≤ d) {z : (Int32 × mh_H)} : ∀ (F : Nat) (h : mh_H) (l0 : Nat) (l3 : Int32) (l4 : Int32) (l6 : Int32) (l7 : Int32), D_X11_spill_66 N F h l0 l3 l4 l6 l7 = some z → mh_go P d mX11_spill 66 [some (.ref l0), none, none, some (.int l3), some (.int l4), none, some (.int l6), some (.int l7)] [] h (some (.int z.1)) z.2 := by
  intro F
  induction F with
  | zero => intro h l0 l3 l4 l6 l7 hq; rw [D_X11_spill_66] at hq; cases hq
  | succ F ih =>
    intro h l0 l3 l4 l6 l7 hq
    rw [D_X11_spill_66] at hq
    refine st_iload (pc := 66) dX11_spill_66 rfl ?_
    refine st_iload (pc := 68) dX11_spill_68 rfl ?_
    refine bd_icmp_ge (pc := 70) (tgt := 109) hq dX11_spill_70 (by decide) (fun _ hq => ?_) (fun _ hq => ?_)
    ·
      refine st_iload (pc := 109) dX11_spill_109 rfl ?_
      exact bd_iret (pc := 111) hq dX11_spill_111 rfl
    ·
      refine st_aload_n (pc := 73) dX11_spill_73 rfl ?_
      refine bd_getr (pc := 74) hq dX11_spill_74 fl_11_22_11 rfl (fun v1 hq => ?_)
      refine st_aload_n (pc := 77) dX11_spill_77 rfl ?_
      refine bd_getr (pc := 78) hq dX11_spill_78 fl_11_10_11 rfl (fun v2 hq => ?_)
      refine st_aload_n (pc := 81) dX11_spill_81 rfl ?_
      refine bd_getr (pc := 82) hq dX11_spill_82 fl_11_29_11 rfl (fun v3 hq => ?_)
      obtain ⟨⟨hbq4, hkq4⟩, hq⟩ := mh_oi hq
      obtain ⟨q4, e4, hq⟩ := mh_ob hq
      refine st_invV (pc := 85) (ci := 8) (vs := [.ref v2, .ref v3]) (rest := []) (st2 := []) dX11_spill_85 okX8_passHour (by decide) hkq4 hbq4 wd_501 wd_502 wd_503 pdX8_passHour rfl rfl rfl rfl (Nat.le_trans (by decide) hd) (Nat.le_of_ble_eq_true rfl) (T_X8_passHour (Nat.le_refl _) e4) rfl ?_
      refine st_iload (pc := 88) dX11_spill_88 rfl ?_
      refine st_aload_n (pc := 90) dX11_spill_90 rfl ?_
      refine bd_getr (pc := 91) hq dX11_spill_91 fl_11_22_11 rfl (fun v5 hq => ?_)
      refine st_iload_n (pc := 94) dX11_spill_94 rfl ?_
      refine st_iconst (pc := 95) (v := (3 : Int32)) dX11_spill_95 rfl ?_
      refine st_iconst (pc := 96) (v := (1 : Int32)) dX11_spill_96 rfl ?_
      obtain ⟨⟨hbq6, hkq6⟩, hq⟩ := mh_oi hq
      obtain ⟨q6, e6, hq⟩ := mh_ob hq
      refine st_invV (pc := 97) (ci := 8) (vs := [.int l3, .int (3 : Int32), .int (1 : Int32)]) (rest := [.int l6]) (st2 := [.int q6.1, .int l6]) dX11_spill_97 okX8_cameOut (by decide) hkq6 hbq6 wd_744 wd_745 wd_746 pdX8_cameOut rfl rfl rfl rfl (Nat.le_trans (by decide) hd) (Nat.le_of_ble_eq_true rfl) (T_X8_cameOut (Nat.le_refl _) e6) rfl ?_
      refine st_iadd (pc := 100) dX11_spill_100 ?_
      refine st_istore (pc := 101) (lv' := [some (.ref l0), none, none, some (.int l3), some (.int l4), none, some (.int (l6 + q6.1)), some (.int l7)]) dX11_spill_101 rfl (by decide) rfl ?_
      refine st_iinc (pc := 103) (lv' := [some (.ref l0), none, none, some (.int l3), some (.int l4), none, some (.int (l6 + q6.1)), some (.int (l7 + Int32.ofInt (1)))]) dX11_spill_103 rfl rfl (by decide) rfl ?_
      refine st_goto (pc := 106) (tgt := 66) dX11_spill_106 (by decide) ?_
      exact ih _ _ _ _ _ _ hq
def D_X11_spill (N : Nat) (h : mh_H) (l0 : Nat) (l1 : Int32) (l2 : Int32) (l3 : Int32) (l4 : Int32) : Option (Int32 × mh_H) :=
  kO h 11 l0 <|
  (D_X11_spillError N h l0 l1 l2 l3).bind fun q1 =>
  if q1.1 = (1 : Int32) then (D_X11_spill_26 N q1.2 l0)
  else ((D_X11_within N q1.2 l4 (1 : Int32) (60 : Int32)).bind fun q2 =>
  if q2.1 = 0 then (D_X11_spill_26 N q2.2 l0)
  else (if q1.1 = 0 then ((gR q2.2 11 l0 2).bind fun v3 =>
  (gR q2.2 11 l0 0).bind fun v4 =>
  (gR q2.2 10 v4 7).bind fun v5 =>
  kO q2.2 8 v3 <|
  (D_X8_startSpill N q2.2 v3 v5 l1 l2).bind fun q6 =>
  D_X11_spill_66 N N q6 l0 l3 l4 (0 : Int32) (0 : Int32))
  else (kO q2.2 11 l0 <|
  (D_X11_error N q2.2 l0 q1.1).bind fun q3 =>
  some (q3.1, q3.2))))
set_option maxHeartbeats 4000000 in
set_option maxRecDepth 100000 in
theorem T_X11_spill {P : mh_E → Prop} {N d : Nat} (hd : 48 ≤ d) {z : (Int32 × mh_H)} {h : mh_H} {l0 : Nat} {l1 : Int32} {l2 : Int32} {l3 : Int32} {l4 : Int32} (hq : D_X11_spill N h l0 l1 l2 l3 l4 = some z) : mh_go P d mX11_spill 0 [some (.ref l0), some (.int l1), some (.int l2), some (.int l3), some (.int l4), none, none, none] [] h (some (.int z.1)) z.2 := by
  unfold D_X11_spill at hq
  refine st_aload_n (pc := 0) dX11_spill_0 rfl ?_
  refine st_iload_n (pc := 1) dX11_spill_1 rfl ?_
  refine st_iload_n (pc := 2) dX11_spill_2 rfl ?_
  refine st_iload_n (pc := 3) dX11_spill_3 rfl ?_
  obtain ⟨⟨hbq1, hkq1⟩, hq⟩ := mh_oi hq
  obtain ⟨q1, e1, hq⟩ := mh_ob hq
  refine st_invV (pc := 4) (ci := 11) (vs := [.int l1, .int l2, .int l3]) (rest := []) (st2 := [.int q1.1]) dX11_spill_4 okX11_spillError (by decide) hkq1 hbq1 wd_752 wd_754 wp_18 pdX11_spillError rfl rfl rfl rfl (Nat.le_trans (by decide) hd) (Nat.le_of_ble_eq_true rfl) (T_X11_spillError (Nat.le_refl _) e1) rfl ?_
  refine st_istore (pc := 7) (lv' := [some (.ref l0), some (.int l1), some (.int l2), some (.int l3), some (.int l4), some (.int q1.1), none, none]) dX11_spill_7 rfl (by decide) rfl ?_
  refine st_iload (pc := 9) dX11_spill_9 rfl ?_
  refine st_iconst (pc := 11) (v := (1 : Int32)) dX11_spill_11 rfl ?_
  refine bd_icmp_eq (pc := 12) (tgt := 26) hq dX11_spill_12 (by decide) (fun _ hq => ?_) (fun _ hq => ?_)
  ·
    refine st_lesS (lv' := [some (.ref l0), none, none, none, none, none, none, none]) ⟨Or.inr rfl, Or.inl rfl, Or.inl rfl, Or.inl rfl, Or.inl rfl, Or.inl rfl, Or.inr rfl, Or.inr rfl, trivial⟩ ?_
    exact T_X11_spill_26 hd hq
  ·
    refine st_iload (pc := 15) dX11_spill_15 rfl ?_
    refine st_iconst (pc := 17) (v := (1 : Int32)) dX11_spill_17 rfl ?_
    refine st_bipush (pc := 18) (v := (60 : Int32)) dX11_spill_18 (by decide) ?_
    obtain ⟨q2, e2, hq⟩ := mh_ob hq
    refine st_invS (pc := 20) (Y := mX11_within) (vs := [.int l4, .int (1 : Int32), .int (60 : Int32)]) (rest := []) (st2 := [.int q2.1]) dX11_spill_20 okX11_within wd_311 wd_312 pdX11_within rfl rfl rfl rfl (Nat.le_trans (by decide) hd) (Nat.le_of_ble_eq_true rfl) (T_X11_within (Nat.le_refl _) e2) rfl ?_
    refine bd_if_ne (pc := 23) (tgt := 32) hq dX11_spill_23 (by decide) (fun _ hq => ?_) (fun _ hq => ?_)
    ·
      refine st_lesS (lv' := [some (.ref l0), none, none, none, none, none, none, none]) ⟨Or.inr rfl, Or.inl rfl, Or.inl rfl, Or.inl rfl, Or.inl rfl, Or.inl rfl, Or.inr rfl, Or.inr rfl, trivial⟩ ?_
      exact T_X11_spill_26 hd hq
    ·
      refine st_iload (pc := 32) dX11_spill_32 rfl ?_
      refine bd_if_eq (pc := 34) (tgt := 44) hq dX11_spill_34 (by decide) (fun _ hq => ?_) (fun _ hq => ?_)
      ·
        refine st_aload_n (pc := 44) dX11_spill_44 rfl ?_
        refine bd_getr (pc := 45) hq dX11_spill_45 fl_11_22_11 rfl (fun v3 hq => ?_)
        refine st_aload_n (pc := 48) dX11_spill_48 rfl ?_
        refine bd_getr (pc := 49) hq dX11_spill_49 fl_11_10_11 rfl (fun v4 hq => ?_)
        refine bd_getr (pc := 52) hq dX11_spill_52 fl_11_90_10 rfl (fun v5 hq => ?_)
        refine st_iload_n (pc := 55) dX11_spill_55 rfl ?_
        refine st_iload_n (pc := 56) dX11_spill_56 rfl ?_
        obtain ⟨⟨hbq6, hkq6⟩, hq⟩ := mh_oi hq
        obtain ⟨q6, e6, hq⟩ := mh_ob hq
        refine st_invV (pc := 57) (ci := 8) (vs := [.ref v5, .int l1, .int l2]) (rest := []) (st2 := []) dX11_spill_57 okX8_startSpill (by decide) hkq6 hbq6 wd_756 wd_757 wd_758 pdX8_startSpill rfl rfl rfl rfl (Nat.le_trans (by decide) hd) (Nat.le_of_ble_eq_true rfl) (T_X8_startSpill (Nat.le_refl _) e6) rfl ?_
        refine st_iconst (pc := 60) (v := (0 : Int32)) dX11_spill_60 rfl ?_
        refine st_istore (pc := 61) (lv' := [some (.ref l0), some (.int l1), some (.int l2), some (.int l3), some (.int l4), some (.int q1.1), some (.int (0 : Int32)), none]) dX11_spill_61 rfl (by decide) rfl ?_
        refine st_iconst (pc := 63) (v := (0 : Int32)) dX11_spill_63 rfl ?_
        refine st_istore (pc := 64) (lv' := [some (.ref l0), some (.int l1), some (.int l2), some (.int l3), some (.int l4), some (.int q1.1), some (.int (0 : Int32)), some (.int (0 : Int32))]) dX11_spill_64 rfl (by decide) rfl ?_
        refine st_lesS (lv' := [some (.ref l0), none, none, some (.int l3), some (.int l4), none, some (.int (0 : Int32)), some (.int (0 : Int32))]) ⟨Or.inr rfl, Or.inl rfl, Or.inl rfl, Or.inr rfl, Or.inr rfl, Or.inl rfl, Or.inr rfl, Or.inr rfl, trivial⟩ ?_
        exact T_X11_spill_66 hd N _ _ _ _ _ _ hq
      ·
        refine st_aload_n (pc := 37) dX11_spill_37 rfl ?_
        refine st_iload (pc := 38) dX11_spill_38 rfl ?_
        obtain ⟨⟨hbq3, hkq3⟩, hq⟩ := mh_oi hq
        obtain ⟨q3, e3, hq⟩ := mh_ob hq
        refine st_invV (pc := 40) (ci := 11) (vs := [.int q1.1]) (rest := []) (st2 := [.int q3.1]) dX11_spill_40 okX11_error (by decide) hkq3 hbq3 wd_314 wd_316 wp_0 pdX11_error rfl rfl rfl rfl (Nat.le_trans (by decide) hd) (Nat.le_of_ble_eq_true rfl) (T_X11_error (Nat.le_refl _) e3) rfl ?_
        exact bd_iret (pc := 43) hq dX11_spill_43 rfl
-- HoleWater.first(III)I
theorem dX11_first_40 : decode cX11_first 40 = .ok (.iload 5, 2) := by decide +kernel
theorem dX11_first_42 : decode cX11_first 42 = .ok (.bipush 60, 2) := by decide +kernel
theorem dX11_first_44 : decode cX11_first 44 = .ok (.if_icmp .gt 40, 3) := by decide +kernel
theorem dX11_first_84 : decode cX11_first 84 = .ok (.aload_n 0, 1) := by decide +kernel
theorem dX11_first_85 : decode cX11_first 85 = .ok (.iconst 2, 1) := by decide +kernel
theorem dX11_first_86 : decode cX11_first 86 = .ok (.invokevirtual 66, 3) := by decide +kernel
theorem dX11_first_89 : decode cX11_first 89 = .ok (.ireturn, 1) := by decide +kernel
theorem dX11_first_47 : decode cX11_first 47 = .ok (.aload_n 0, 1) := by decide +kernel
theorem dX11_first_48 : decode cX11_first 48 = .ok (.getfield 22, 3) := by decide +kernel
theorem dX11_first_51 : decode cX11_first 51 = .ok (.aload_n 0, 1) := by decide +kernel
theorem dX11_first_52 : decode cX11_first 52 = .ok (.getfield 10, 3) := by decide +kernel
theorem dX11_first_55 : decode cX11_first 55 = .ok (.aload_n 0, 1) := by decide +kernel
theorem dX11_first_56 : decode cX11_first 56 = .ok (.getfield 29, 3) := by decide +kernel
theorem dX11_first_59 : decode cX11_first 59 = .ok (.invokevirtual 192, 3) := by decide +kernel
theorem dX11_first_62 : decode cX11_first 62 = .ok (.aload_n 0, 1) := by decide +kernel
theorem dX11_first_63 : decode cX11_first 63 = .ok (.getfield 22, 3) := by decide +kernel
theorem dX11_first_66 : decode cX11_first 66 = .ok (.iload_n 3, 1) := by decide +kernel
theorem dX11_first_67 : decode cX11_first 67 = .ok (.iconst 3, 1) := by decide +kernel
theorem dX11_first_68 : decode cX11_first 68 = .ok (.iconst 1, 1) := by decide +kernel
theorem dX11_first_69 : decode cX11_first 69 = .ok (.invokevirtual 220, 3) := by decide +kernel
theorem dX11_first_72 : decode cX11_first 72 = .ok (.ifCond .le 6, 3) := by decide +kernel
theorem dX11_first_78 : decode cX11_first 78 = .ok (.iinc 5 1, 3) := by decide +kernel
theorem dX11_first_81 : decode cX11_first 81 = .ok (.goto (-41), 3) := by decide +kernel
theorem dX11_first_75 : decode cX11_first 75 = .ok (.iload 5, 2) := by decide +kernel
theorem dX11_first_77 : decode cX11_first 77 = .ok (.ireturn, 1) := by decide +kernel
theorem dX11_first_0 : decode cX11_first 0 = .ok (.aload_n 0, 1) := by decide +kernel
theorem dX11_first_1 : decode cX11_first 1 = .ok (.iload_n 1, 1) := by decide +kernel
theorem dX11_first_2 : decode cX11_first 2 = .ok (.iload_n 2, 1) := by decide +kernel
theorem dX11_first_3 : decode cX11_first 3 = .ok (.iload_n 3, 1) := by decide +kernel
theorem dX11_first_4 : decode cX11_first 4 = .ok (.invokevirtual 223, 3) := by decide +kernel
theorem dX11_first_7 : decode cX11_first 7 = .ok (.istore 4, 2) := by decide +kernel
theorem dX11_first_9 : decode cX11_first 9 = .ok (.iload 4, 2) := by decide +kernel
theorem dX11_first_11 : decode cX11_first 11 = .ok (.ifCond .eq 10, 3) := by decide +kernel
theorem dX11_first_21 : decode cX11_first 21 = .ok (.aload_n 0, 1) := by decide +kernel
theorem dX11_first_22 : decode cX11_first 22 = .ok (.getfield 22, 3) := by decide +kernel
theorem dX11_first_25 : decode cX11_first 25 = .ok (.aload_n 0, 1) := by decide +kernel
theorem dX11_first_26 : decode cX11_first 26 = .ok (.getfield 10, 3) := by decide +kernel
theorem dX11_first_29 : decode cX11_first 29 = .ok (.getfield 90, 3) := by decide +kernel
theorem dX11_first_32 : decode cX11_first 32 = .ok (.iload_n 1, 1) := by decide +kernel
theorem dX11_first_33 : decode cX11_first 33 = .ok (.iload_n 2, 1) := by decide +kernel
theorem dX11_first_34 : decode cX11_first 34 = .ok (.invokevirtual 226, 3) := by decide +kernel
theorem dX11_first_37 : decode cX11_first 37 = .ok (.iconst 1, 1) := by decide +kernel
theorem dX11_first_38 : decode cX11_first 38 = .ok (.istore 5, 2) := by decide +kernel
theorem dX11_first_14 : decode cX11_first 14 = .ok (.aload_n 0, 1) := by decide +kernel
theorem dX11_first_15 : decode cX11_first 15 = .ok (.iload 4, 2) := by decide +kernel
theorem dX11_first_17 : decode cX11_first 17 = .ok (.invokevirtual 66, 3) := by decide +kernel
theorem dX11_first_20 : decode cX11_first 20 = .ok (.ireturn, 1) := by decide +kernel
def D_X11_first_40 (N : Nat) : Nat → mh_H → Nat → Int32 → Int32 → Option (Int32 × mh_H)
  | 0, _, _, _, _ => none
  | F + 1, h, l0, l3, l5 =>
    if (60 : Int32) < l5 then (kO h 11 l0 <|
    (D_X11_error N h l0 (2 : Int32)).bind fun q1 =>
    some (q1.1, q1.2))
    else ((gR h 11 l0 2).bind fun v1 =>
    (gR h 11 l0 0).bind fun v2 =>
    (gR h 11 l0 3).bind fun v3 =>
    kO h 8 v1 <|
    (D_X8_passHour N h v1 v2 v3).bind fun q4 =>
    (gR q4 11 l0 2).bind fun v5 =>
    kO q4 8 v5 <|
    (D_X8_cameOut N q4 v5 l3 (3 : Int32) (1 : Int32)).bind fun q6 =>
    if q6.1 ≤ 0 then ((D_X11_first_40 N F) q6.2 l0 l3 (l5 + Int32.ofInt (1)))
    else (some (l5, q6.2)))
set_option maxHeartbeats 4000000 in
set_option maxRecDepth 100000 in
theorem T_X11_first_40 {P : mh_E → Prop} {N d : Nat} (hd : 48 ≤ d) {z : (Int32 × mh_H)} : ∀ (F : Nat) (h : mh_H) (l0 : Nat) (l3 : Int32) (l5 : Int32), D_X11_first_40 N F h l0 l3 l5 = some z → mh_go P d mX11_first 40 [some (.ref l0), none, none, some (.int l3), none, some (.int l5)] [] h (some (.int z.1)) z.2 := by
  intro F
  induction F with
  | zero => intro h l0 l3 l5 hq; rw [D_X11_first_40] at hq; cases hq
  | succ F ih =>
    intro h l0 l3 l5 hq
    rw [D_X11_first_40] at hq
    refine st_iload (pc := 40) dX11_first_40 rfl ?_
    refine st_bipush (pc := 42) (v := (60 : Int32)) dX11_first_42 (by decide) ?_
    refine bd_icmp_gt (pc := 44) (tgt := 84) hq dX11_first_44 (by decide) (fun _ hq => ?_) (fun _ hq => ?_)
    ·
      refine st_aload_n (pc := 84) dX11_first_84 rfl ?_
      refine st_iconst (pc := 85) (v := (2 : Int32)) dX11_first_85 rfl ?_
      obtain ⟨⟨hbq1, hkq1⟩, hq⟩ := mh_oi hq
      obtain ⟨q1, e1, hq⟩ := mh_ob hq
      refine st_invV (pc := 86) (ci := 11) (vs := [.int (2 : Int32)]) (rest := []) (st2 := [.int q1.1]) dX11_first_86 okX11_error (by decide) hkq1 hbq1 wd_314 wd_316 wp_0 pdX11_error rfl rfl rfl rfl (Nat.le_trans (by decide) hd) (Nat.le_of_ble_eq_true rfl) (T_X11_error (Nat.le_refl _) e1) rfl ?_
      exact bd_iret (pc := 89) hq dX11_first_89 rfl
    ·
      refine st_aload_n (pc := 47) dX11_first_47 rfl ?_
      refine bd_getr (pc := 48) hq dX11_first_48 fl_11_22_11 rfl (fun v1 hq => ?_)
      refine st_aload_n (pc := 51) dX11_first_51 rfl ?_
      refine bd_getr (pc := 52) hq dX11_first_52 fl_11_10_11 rfl (fun v2 hq => ?_)
      refine st_aload_n (pc := 55) dX11_first_55 rfl ?_
      refine bd_getr (pc := 56) hq dX11_first_56 fl_11_29_11 rfl (fun v3 hq => ?_)
      obtain ⟨⟨hbq4, hkq4⟩, hq⟩ := mh_oi hq
      obtain ⟨q4, e4, hq⟩ := mh_ob hq
      refine st_invV (pc := 59) (ci := 8) (vs := [.ref v2, .ref v3]) (rest := []) (st2 := []) dX11_first_59 okX8_passHour (by decide) hkq4 hbq4 wd_501 wd_502 wd_503 pdX8_passHour rfl rfl rfl rfl (Nat.le_trans (by decide) hd) (Nat.le_of_ble_eq_true rfl) (T_X8_passHour (Nat.le_refl _) e4) rfl ?_
      refine st_aload_n (pc := 62) dX11_first_62 rfl ?_
      refine bd_getr (pc := 63) hq dX11_first_63 fl_11_22_11 rfl (fun v5 hq => ?_)
      refine st_iload_n (pc := 66) dX11_first_66 rfl ?_
      refine st_iconst (pc := 67) (v := (3 : Int32)) dX11_first_67 rfl ?_
      refine st_iconst (pc := 68) (v := (1 : Int32)) dX11_first_68 rfl ?_
      obtain ⟨⟨hbq6, hkq6⟩, hq⟩ := mh_oi hq
      obtain ⟨q6, e6, hq⟩ := mh_ob hq
      refine st_invV (pc := 69) (ci := 8) (vs := [.int l3, .int (3 : Int32), .int (1 : Int32)]) (rest := []) (st2 := [.int q6.1]) dX11_first_69 okX8_cameOut (by decide) hkq6 hbq6 wd_744 wd_745 wd_746 pdX8_cameOut rfl rfl rfl rfl (Nat.le_trans (by decide) hd) (Nat.le_of_ble_eq_true rfl) (T_X8_cameOut (Nat.le_refl _) e6) rfl ?_
      refine bd_if_le (pc := 72) (tgt := 78) hq dX11_first_72 (by decide) (fun _ hq => ?_) (fun _ hq => ?_)
      ·
        refine st_iinc (pc := 78) (lv' := [some (.ref l0), none, none, some (.int l3), none, some (.int (l5 + Int32.ofInt (1)))]) dX11_first_78 rfl rfl (by decide) rfl ?_
        refine st_goto (pc := 81) (tgt := 40) dX11_first_81 (by decide) ?_
        exact ih _ _ _ _ hq
      ·
        refine st_iload (pc := 75) dX11_first_75 rfl ?_
        exact bd_iret (pc := 77) hq dX11_first_77 rfl
def D_X11_first (N : Nat) (h : mh_H) (l0 : Nat) (l1 : Int32) (l2 : Int32) (l3 : Int32) : Option (Int32 × mh_H) :=
  kO h 11 l0 <|
  (D_X11_spillError N h l0 l1 l2 l3).bind fun q1 =>
  if q1.1 = 0 then ((gR q1.2 11 l0 2).bind fun v2 =>
  (gR q1.2 11 l0 0).bind fun v3 =>
  (gR q1.2 10 v3 7).bind fun v4 =>
  kO q1.2 8 v2 <|
  (D_X8_startSpill N q1.2 v2 v4 l1 l2).bind fun q5 =>
  D_X11_first_40 N N q5 l0 l3 (1 : Int32))
  else (kO q1.2 11 l0 <|
  (D_X11_error N q1.2 l0 q1.1).bind fun q2 =>
  some (q2.1, q2.2))
set_option maxHeartbeats 4000000 in
set_option maxRecDepth 100000 in
theorem T_X11_first {P : mh_E → Prop} {N d : Nat} (hd : 48 ≤ d) {z : (Int32 × mh_H)} {h : mh_H} {l0 : Nat} {l1 : Int32} {l2 : Int32} {l3 : Int32} (hq : D_X11_first N h l0 l1 l2 l3 = some z) : mh_go P d mX11_first 0 [some (.ref l0), some (.int l1), some (.int l2), some (.int l3), none, none] [] h (some (.int z.1)) z.2 := by
  unfold D_X11_first at hq
  refine st_aload_n (pc := 0) dX11_first_0 rfl ?_
  refine st_iload_n (pc := 1) dX11_first_1 rfl ?_
  refine st_iload_n (pc := 2) dX11_first_2 rfl ?_
  refine st_iload_n (pc := 3) dX11_first_3 rfl ?_
  obtain ⟨⟨hbq1, hkq1⟩, hq⟩ := mh_oi hq
  obtain ⟨q1, e1, hq⟩ := mh_ob hq
  refine st_invV (pc := 4) (ci := 11) (vs := [.int l1, .int l2, .int l3]) (rest := []) (st2 := [.int q1.1]) dX11_first_4 okX11_spillError (by decide) hkq1 hbq1 wd_752 wd_754 wp_18 pdX11_spillError rfl rfl rfl rfl (Nat.le_trans (by decide) hd) (Nat.le_of_ble_eq_true rfl) (T_X11_spillError (Nat.le_refl _) e1) rfl ?_
  refine st_istore (pc := 7) (lv' := [some (.ref l0), some (.int l1), some (.int l2), some (.int l3), some (.int q1.1), none]) dX11_first_7 rfl (by decide) rfl ?_
  refine st_iload (pc := 9) dX11_first_9 rfl ?_
  refine bd_if_eq (pc := 11) (tgt := 21) hq dX11_first_11 (by decide) (fun _ hq => ?_) (fun _ hq => ?_)
  ·
    refine st_aload_n (pc := 21) dX11_first_21 rfl ?_
    refine bd_getr (pc := 22) hq dX11_first_22 fl_11_22_11 rfl (fun v2 hq => ?_)
    refine st_aload_n (pc := 25) dX11_first_25 rfl ?_
    refine bd_getr (pc := 26) hq dX11_first_26 fl_11_10_11 rfl (fun v3 hq => ?_)
    refine bd_getr (pc := 29) hq dX11_first_29 fl_11_90_10 rfl (fun v4 hq => ?_)
    refine st_iload_n (pc := 32) dX11_first_32 rfl ?_
    refine st_iload_n (pc := 33) dX11_first_33 rfl ?_
    obtain ⟨⟨hbq5, hkq5⟩, hq⟩ := mh_oi hq
    obtain ⟨q5, e5, hq⟩ := mh_ob hq
    refine st_invV (pc := 34) (ci := 8) (vs := [.ref v4, .int l1, .int l2]) (rest := []) (st2 := []) dX11_first_34 okX8_startSpill (by decide) hkq5 hbq5 wd_756 wd_757 wd_758 pdX8_startSpill rfl rfl rfl rfl (Nat.le_trans (by decide) hd) (Nat.le_of_ble_eq_true rfl) (T_X8_startSpill (Nat.le_refl _) e5) rfl ?_
    refine st_iconst (pc := 37) (v := (1 : Int32)) dX11_first_37 rfl ?_
    refine st_istore (pc := 38) (lv' := [some (.ref l0), some (.int l1), some (.int l2), some (.int l3), some (.int q1.1), some (.int (1 : Int32))]) dX11_first_38 rfl (by decide) rfl ?_
    refine st_lesS (lv' := [some (.ref l0), none, none, some (.int l3), none, some (.int (1 : Int32))]) ⟨Or.inr rfl, Or.inl rfl, Or.inl rfl, Or.inr rfl, Or.inl rfl, Or.inr rfl, trivial⟩ ?_
    exact T_X11_first_40 hd N _ _ _ _ hq
  ·
    refine st_aload_n (pc := 14) dX11_first_14 rfl ?_
    refine st_iload (pc := 15) dX11_first_15 rfl ?_
    obtain ⟨⟨hbq2, hkq2⟩, hq⟩ := mh_oi hq
    obtain ⟨q2, e2, hq⟩ := mh_ob hq
    refine st_invV (pc := 17) (ci := 11) (vs := [.int q1.1]) (rest := []) (st2 := [.int q2.1]) dX11_first_17 okX11_error (by decide) hkq2 hbq2 wd_314 wd_316 wp_0 pdX11_error rfl rfl rfl rfl (Nat.le_trans (by decide) hd) (Nat.le_of_ble_eq_true rfl) (T_X11_error (Nat.le_refl _) e2) rfl ?_
    exact bd_iret (pc := 20) hq dX11_first_20 rfl
-- HoleWater$Row.add(I)Z
theorem dX6_add_0 : decode cX6_add 0 = .ok (.aload_n 0, 1) := by decide +kernel
theorem dX6_add_1 : decode cX6_add 1 = .ok (.getfield 7, 3) := by decide +kernel
theorem dX6_add_4 : decode cX6_add 4 = .ok (.aload_n 0, 1) := by decide +kernel
theorem dX6_add_5 : decode cX6_add 5 = .ok (.getfield 19, 3) := by decide +kernel
theorem dX6_add_8 : decode cX6_add 8 = .ok (.arraylength, 1) := by decide +kernel
theorem dX6_add_9 : decode cX6_add 9 = .ok (.if_icmp .lt 5, 3) := by decide +kernel
theorem dX6_add_14 : decode cX6_add 14 = .ok (.aload_n 0, 1) := by decide +kernel
theorem dX6_add_15 : decode cX6_add 15 = .ok (.getfield 19, 3) := by decide +kernel
theorem dX6_add_18 : decode cX6_add 18 = .ok (.aload_n 0, 1) := by decide +kernel
theorem dX6_add_19 : decode cX6_add 19 = .ok (.getfield 7, 3) := by decide +kernel
theorem dX6_add_22 : decode cX6_add 22 = .ok (.iload_n 1, 1) := by decide +kernel
theorem dX6_add_23 : decode cX6_add 23 = .ok (.iastore, 1) := by decide +kernel
theorem dX6_add_24 : decode cX6_add 24 = .ok (.aload_n 0, 1) := by decide +kernel
theorem dX6_add_25 : decode cX6_add 25 = .ok (.dup, 1) := by decide +kernel
theorem dX6_add_26 : decode cX6_add 26 = .ok (.getfield 7, 3) := by decide +kernel
theorem dX6_add_29 : decode cX6_add 29 = .ok (.iconst 1, 1) := by decide +kernel
theorem dX6_add_30 : decode cX6_add 30 = .ok (.iadd, 1) := by decide +kernel
theorem dX6_add_31 : decode cX6_add 31 = .ok (.putfield 7, 3) := by decide +kernel
theorem dX6_add_34 : decode cX6_add 34 = .ok (.iconst 1, 1) := by decide +kernel
theorem dX6_add_35 : decode cX6_add 35 = .ok (.ireturn, 1) := by decide +kernel
theorem dX6_add_12 : decode cX6_add 12 = .ok (.iconst 0, 1) := by decide +kernel
theorem dX6_add_13 : decode cX6_add 13 = .ok (.ireturn, 1) := by decide +kernel
def D_X6_add (N : Nat) (h : mh_H) (l0 : Nat) (l1 : Int32) : Option (Int32 × mh_H) :=
  (gI h 6 l0 1).bind fun v1 =>
  (gR h 6 l0 0).bind fun v2 =>
  (aL h v2).bind fun v3 =>
  if v1 < v3 then ((gR h 6 l0 0).bind fun v4 =>
  (gI h 6 l0 1).bind fun v5 =>
  (uI h v4 v5 l1).bind fun h6 =>
  (gI h6 6 l0 1).bind fun v7 =>
  (pI h6 6 l0 1 (v7 + (1 : Int32))).bind fun h8 =>
  zB (1 : Int32) h8)
  else (zB (0 : Int32) h)
set_option maxHeartbeats 4000000 in
set_option maxRecDepth 100000 in
theorem T_X6_add {P : mh_E → Prop} {N d : Nat} (hd : 1 ≤ d) {z : (Int32 × mh_H)} {h : mh_H} {l0 : Nat} {l1 : Int32} (hq : D_X6_add N h l0 l1 = some z) : mh_go P d mX6_add 0 [some (.ref l0), some (.int l1)] [] h (some (.int z.1)) z.2 := by
  unfold D_X6_add at hq
  refine st_aload_n (pc := 0) dX6_add_0 rfl ?_
  refine bd_geti (pc := 1) hq dX6_add_1 fl_6_7_6 rfl (fun v1 hq => ?_)
  refine st_aload_n (pc := 4) dX6_add_4 rfl ?_
  refine bd_getr (pc := 5) hq dX6_add_5 fl_6_19_6 rfl (fun v2 hq => ?_)
  refine bd_alen (pc := 8) hq dX6_add_8 (fun v3 hq => ?_)
  refine bd_icmp_lt (pc := 9) (tgt := 14) hq dX6_add_9 (by decide) (fun _ hq => ?_) (fun _ hq => ?_)
  ·
    refine st_aload_n (pc := 14) dX6_add_14 rfl ?_
    refine bd_getr (pc := 15) hq dX6_add_15 fl_6_19_6 rfl (fun v4 hq => ?_)
    refine st_aload_n (pc := 18) dX6_add_18 rfl ?_
    refine bd_geti (pc := 19) hq dX6_add_19 fl_6_7_6 rfl (fun v5 hq => ?_)
    refine st_iload_n (pc := 22) dX6_add_22 rfl ?_
    refine bd_iast (pc := 23) hq dX6_add_23 (fun h6 hq => ?_)
    refine st_aload_n (pc := 24) dX6_add_24 rfl ?_
    refine st_dup (pc := 25) dX6_add_25 rfl ?_
    refine bd_geti (pc := 26) hq dX6_add_26 fl_6_7_6 rfl (fun v7 hq => ?_)
    refine st_iconst (pc := 29) (v := (1 : Int32)) dX6_add_29 rfl ?_
    refine st_iadd (pc := 30) dX6_add_30 ?_
    refine bd_puti (pc := 31) hq dX6_add_31 fl_6_7_6 (Or.inl rfl) rfl (fun h8 hq => ?_)
    refine st_iconst (pc := 34) (v := (1 : Int32)) dX6_add_34 rfl ?_
    exact bd_zret (pc := 35) hq dX6_add_35 rfl
  ·
    refine st_iconst (pc := 12) (v := (0 : Int32)) dX6_add_12 rfl ?_
    exact bd_zret (pc := 13) hq dX6_add_13 rfl
-- HoleWater.feed(JI)I
theorem dX11_feed_42 : decode cX11_feed 42 = .ok (.iload 4, 2) := by decide +kernel
theorem dX11_feed_44 : decode cX11_feed 44 = .ok (.iload_n 3, 1) := by decide +kernel
theorem dX11_feed_45 : decode cX11_feed 45 = .ok (.if_icmp .ge 32, 3) := by decide +kernel
theorem dX11_feed_77 : decode cX11_feed 77 = .ok (.aload_n 0, 1) := by decide +kernel
theorem dX11_feed_78 : decode cX11_feed 78 = .ok (.getfield 10, 3) := by decide +kernel
theorem dX11_feed_81 : decode cX11_feed 81 = .ok (.getfield 230, 3) := by decide +kernel
theorem dX11_feed_84 : decode cX11_feed 84 = .ok (.getfield 233, 3) := by decide +kernel
theorem dX11_feed_87 : decode cX11_feed 87 = .ok (.ireturn, 1) := by decide +kernel
theorem dX11_feed_48 : decode cX11_feed 48 = .ok (.aload_n 0, 1) := by decide +kernel
theorem dX11_feed_49 : decode cX11_feed 49 = .ok (.getfield 10, 3) := by decide +kernel
theorem dX11_feed_52 : decode cX11_feed 52 = .ok (.getfield 230, 3) := by decide +kernel
theorem dX11_feed_55 : decode cX11_feed 55 = .ok (.lload_n 1, 1) := by decide +kernel
theorem dX11_feed_56 : decode cX11_feed 56 = .ok (.bipush 8, 2) := by decide +kernel
theorem dX11_feed_58 : decode cX11_feed 58 = .ok (.iload 4, 2) := by decide +kernel
theorem dX11_feed_60 : decode cX11_feed 60 = .ok (.imul, 1) := by decide +kernel
theorem dX11_feed_61 : decode cX11_feed 61 = .ok (.lushr, 1) := by decide +kernel
theorem dX11_feed_62 : decode cX11_feed 62 = .ok (.l2i, 1) := by decide +kernel
theorem dX11_feed_63 : decode cX11_feed 63 = .ok (.sipush 255, 3) := by decide +kernel
theorem dX11_feed_66 : decode cX11_feed 66 = .ok (.iand, 1) := by decide +kernel
theorem dX11_feed_67 : decode cX11_feed 67 = .ok (.invokevirtual 236, 3) := by decide +kernel
theorem dX11_feed_70 : decode cX11_feed 70 = .ok (.pop, 1) := by decide +kernel
theorem dX11_feed_71 : decode cX11_feed 71 = .ok (.iinc 4 1, 3) := by decide +kernel
theorem dX11_feed_74 : decode cX11_feed 74 = .ok (.goto (-32), 3) := by decide +kernel
theorem dX11_feed_0 : decode cX11_feed 0 = .ok (.iload_n 3, 1) := by decide +kernel
theorem dX11_feed_1 : decode cX11_feed 1 = .ok (.iconst 1, 1) := by decide +kernel
theorem dX11_feed_2 : decode cX11_feed 2 = .ok (.bipush 8, 2) := by decide +kernel
theorem dX11_feed_4 : decode cX11_feed 4 = .ok (.invokestatic 62, 3) := by decide +kernel
theorem dX11_feed_7 : decode cX11_feed 7 = .ok (.ifCond .ne 9, 3) := by decide +kernel
theorem dX11_feed_10 : decode cX11_feed 10 = .ok (.aload_n 0, 1) := by decide +kernel
theorem dX11_feed_11 : decode cX11_feed 11 = .ok (.iconst 1, 1) := by decide +kernel
theorem dX11_feed_12 : decode cX11_feed 12 = .ok (.invokevirtual 66, 3) := by decide +kernel
theorem dX11_feed_15 : decode cX11_feed 15 = .ok (.ireturn, 1) := by decide +kernel
theorem dX11_feed_16 : decode cX11_feed 16 = .ok (.aload_n 0, 1) := by decide +kernel
theorem dX11_feed_17 : decode cX11_feed 17 = .ok (.getfield 10, 3) := by decide +kernel
theorem dX11_feed_20 : decode cX11_feed 20 = .ok (.getfield 230, 3) := by decide +kernel
theorem dX11_feed_23 : decode cX11_feed 23 = .ok (.getfield 233, 3) := by decide +kernel
theorem dX11_feed_26 : decode cX11_feed 26 = .ok (.iload_n 3, 1) := by decide +kernel
theorem dX11_feed_27 : decode cX11_feed 27 = .ok (.iadd, 1) := by decide +kernel
theorem dX11_feed_28 : decode cX11_feed 28 = .ok (.bipush 60, 2) := by decide +kernel
theorem dX11_feed_30 : decode cX11_feed 30 = .ok (.if_icmp .le 9, 3) := by decide +kernel
theorem dX11_feed_39 : decode cX11_feed 39 = .ok (.iconst 0, 1) := by decide +kernel
theorem dX11_feed_40 : decode cX11_feed 40 = .ok (.istore 4, 2) := by decide +kernel
theorem dX11_feed_33 : decode cX11_feed 33 = .ok (.aload_n 0, 1) := by decide +kernel
theorem dX11_feed_34 : decode cX11_feed 34 = .ok (.iconst 4, 1) := by decide +kernel
theorem dX11_feed_35 : decode cX11_feed 35 = .ok (.invokevirtual 66, 3) := by decide +kernel
theorem dX11_feed_38 : decode cX11_feed 38 = .ok (.ireturn, 1) := by decide +kernel
def D_X11_feed_42 (N : Nat) : Nat → mh_H → Nat → Int64 → Int32 → Int32 → Option (Int32 × mh_H)
  | 0, _, _, _, _, _ => none
  | F + 1, h, l0, l1, l3, l4 =>
    if l3 ≤ l4 then ((gR h 11 l0 0).bind fun v1 =>
    (gR h 10 v1 9).bind fun v2 =>
    (gI h 6 v2 1).bind fun v3 =>
    some (v3, h))
    else ((gR h 11 l0 0).bind fun v1 =>
    (gR h 10 v1 9).bind fun v2 =>
    kO h 6 v2 <|
    (D_X6_add N h v2 ((((l1.toUInt64 >>> (((8 : Int32) * l4).toInt64.toUInt64 &&& Int64.toUInt64 63)).toInt64).toInt32) &&& (255 : Int32))).bind fun q3 =>
    (D_X11_feed_42 N F) q3.2 l0 l1 l3 (l4 + Int32.ofInt (1)))
set_option maxHeartbeats 4000000 in
set_option maxRecDepth 100000 in
theorem T_X11_feed_42 {P : mh_E → Prop} {N d : Nat} (hd : 3 ≤ d) {z : (Int32 × mh_H)} : ∀ (F : Nat) (h : mh_H) (l0 : Nat) (l1 : Int64) (l3 : Int32) (l4 : Int32), D_X11_feed_42 N F h l0 l1 l3 l4 = some z → mh_go P d mX11_feed 42 [some (.ref l0), some (.long l1), none, some (.int l3), some (.int l4)] [] h (some (.int z.1)) z.2 := by
  intro F
  induction F with
  | zero => intro h l0 l1 l3 l4 hq; rw [D_X11_feed_42] at hq; cases hq
  | succ F ih =>
    intro h l0 l1 l3 l4 hq
    rw [D_X11_feed_42] at hq
    refine st_iload (pc := 42) dX11_feed_42 rfl ?_
    refine st_iload_n (pc := 44) dX11_feed_44 rfl ?_
    refine bd_icmp_ge (pc := 45) (tgt := 77) hq dX11_feed_45 (by decide) (fun _ hq => ?_) (fun _ hq => ?_)
    ·
      refine st_aload_n (pc := 77) dX11_feed_77 rfl ?_
      refine bd_getr (pc := 78) hq dX11_feed_78 fl_11_10_11 rfl (fun v1 hq => ?_)
      refine bd_getr (pc := 81) hq dX11_feed_81 fl_11_230_10 rfl (fun v2 hq => ?_)
      refine bd_geti (pc := 84) hq dX11_feed_84 fl_11_233_6 rfl (fun v3 hq => ?_)
      exact bd_iret (pc := 87) hq dX11_feed_87 rfl
    ·
      refine st_aload_n (pc := 48) dX11_feed_48 rfl ?_
      refine bd_getr (pc := 49) hq dX11_feed_49 fl_11_10_11 rfl (fun v1 hq => ?_)
      refine bd_getr (pc := 52) hq dX11_feed_52 fl_11_230_10 rfl (fun v2 hq => ?_)
      refine st_lload_n (pc := 55) dX11_feed_55 rfl ?_
      refine st_bipush (pc := 56) (v := (8 : Int32)) dX11_feed_56 (by decide) ?_
      refine st_iload (pc := 58) dX11_feed_58 rfl ?_
      refine st_imul (pc := 60) dX11_feed_60 ?_
      refine st_lushr (pc := 61) dX11_feed_61 ?_
      refine st_l2i (pc := 62) dX11_feed_62 ?_
      refine st_sipush (pc := 63) (v := (255 : Int32)) dX11_feed_63 (by decide) ?_
      refine st_iand (pc := 66) dX11_feed_66 ?_
      obtain ⟨⟨hbq3, hkq3⟩, hq⟩ := mh_oi hq
      obtain ⟨q3, e3, hq⟩ := mh_ob hq
      refine st_invV (pc := 67) (ci := 6) (vs := [.int ((((l1.toUInt64 >>> (((8 : Int32) * l4).toInt64.toUInt64 &&& Int64.toUInt64 63)).toInt64).toInt32) &&& (255 : Int32))]) (rest := []) (st2 := [.int q3.1]) dX11_feed_67 okX6_add (by decide) hkq3 hbq3 wd_775 wd_776 wd_777 pdX6_add rfl rfl rfl rfl (Nat.le_trans (by decide) hd) (Nat.le_of_ble_eq_true rfl) (T_X6_add (Nat.le_refl _) e3) rfl ?_
      refine st_pop (pc := 70) dX11_feed_70 rfl ?_
      refine st_iinc (pc := 71) (lv' := [some (.ref l0), some (.long l1), none, some (.int l3), some (.int (l4 + Int32.ofInt (1)))]) dX11_feed_71 rfl rfl (by decide) rfl ?_
      refine st_goto (pc := 74) (tgt := 42) dX11_feed_74 (by decide) ?_
      exact ih _ _ _ _ _ hq
def D_X11_feed (N : Nat) (h : mh_H) (l0 : Nat) (l1 : Int64) (l3 : Int32) : Option (Int32 × mh_H) :=
  (D_X11_within N h l3 (1 : Int32) (8 : Int32)).bind fun q1 =>
  if q1.1 = 0 then (kO q1.2 11 l0 <|
  (D_X11_error N q1.2 l0 (1 : Int32)).bind fun q2 =>
  some (q2.1, q2.2))
  else ((gR q1.2 11 l0 0).bind fun v2 =>
  (gR q1.2 10 v2 9).bind fun v3 =>
  (gI q1.2 6 v3 1).bind fun v4 =>
  if (v4 + l3) ≤ (60 : Int32) then (D_X11_feed_42 N N q1.2 l0 l1 l3 (0 : Int32))
  else (kO q1.2 11 l0 <|
  (D_X11_error N q1.2 l0 (4 : Int32)).bind fun q5 =>
  some (q5.1, q5.2)))
set_option maxHeartbeats 4000000 in
set_option maxRecDepth 100000 in
theorem T_X11_feed {P : mh_E → Prop} {N d : Nat} (hd : 3 ≤ d) {z : (Int32 × mh_H)} {h : mh_H} {l0 : Nat} {l1 : Int64} {l3 : Int32} (hq : D_X11_feed N h l0 l1 l3 = some z) : mh_go P d mX11_feed 0 [some (.ref l0), some (.long l1), none, some (.int l3), none] [] h (some (.int z.1)) z.2 := by
  unfold D_X11_feed at hq
  refine st_iload_n (pc := 0) dX11_feed_0 rfl ?_
  refine st_iconst (pc := 1) (v := (1 : Int32)) dX11_feed_1 rfl ?_
  refine st_bipush (pc := 2) (v := (8 : Int32)) dX11_feed_2 (by decide) ?_
  obtain ⟨q1, e1, hq⟩ := mh_ob hq
  refine st_invS (pc := 4) (Y := mX11_within) (vs := [.int l3, .int (1 : Int32), .int (8 : Int32)]) (rest := []) (st2 := [.int q1.1]) dX11_feed_4 okX11_within wd_311 wd_312 pdX11_within rfl rfl rfl rfl (Nat.le_trans (by decide) hd) (Nat.le_of_ble_eq_true rfl) (T_X11_within (Nat.le_refl _) e1) rfl ?_
  refine bd_if_ne (pc := 7) (tgt := 16) hq dX11_feed_7 (by decide) (fun _ hq => ?_) (fun _ hq => ?_)
  ·
    refine st_aload_n (pc := 10) dX11_feed_10 rfl ?_
    refine st_iconst (pc := 11) (v := (1 : Int32)) dX11_feed_11 rfl ?_
    obtain ⟨⟨hbq2, hkq2⟩, hq⟩ := mh_oi hq
    obtain ⟨q2, e2, hq⟩ := mh_ob hq
    refine st_invV (pc := 12) (ci := 11) (vs := [.int (1 : Int32)]) (rest := []) (st2 := [.int q2.1]) dX11_feed_12 okX11_error (by decide) hkq2 hbq2 wd_314 wd_316 wp_0 pdX11_error rfl rfl rfl rfl (Nat.le_trans (by decide) hd) (Nat.le_of_ble_eq_true rfl) (T_X11_error (Nat.le_refl _) e2) rfl ?_
    exact bd_iret (pc := 15) hq dX11_feed_15 rfl
  ·
    refine st_aload_n (pc := 16) dX11_feed_16 rfl ?_
    refine bd_getr (pc := 17) hq dX11_feed_17 fl_11_10_11 rfl (fun v2 hq => ?_)
    refine bd_getr (pc := 20) hq dX11_feed_20 fl_11_230_10 rfl (fun v3 hq => ?_)
    refine bd_geti (pc := 23) hq dX11_feed_23 fl_11_233_6 rfl (fun v4 hq => ?_)
    refine st_iload_n (pc := 26) dX11_feed_26 rfl ?_
    refine st_iadd (pc := 27) dX11_feed_27 ?_
    refine st_bipush (pc := 28) (v := (60 : Int32)) dX11_feed_28 (by decide) ?_
    refine bd_icmp_le (pc := 30) (tgt := 39) hq dX11_feed_30 (by decide) (fun _ hq => ?_) (fun _ hq => ?_)
    ·
      refine st_iconst (pc := 39) (v := (0 : Int32)) dX11_feed_39 rfl ?_
      refine st_istore (pc := 40) (lv' := [some (.ref l0), some (.long l1), none, some (.int l3), some (.int (0 : Int32))]) dX11_feed_40 rfl (by decide) rfl ?_
      exact T_X11_feed_42 hd N _ _ _ _ _ hq
    ·
      refine st_aload_n (pc := 33) dX11_feed_33 rfl ?_
      refine st_iconst (pc := 34) (v := (4 : Int32)) dX11_feed_34 rfl ?_
      obtain ⟨⟨hbq5, hkq5⟩, hq⟩ := mh_oi hq
      obtain ⟨q5, e5, hq⟩ := mh_ob hq
      refine st_invV (pc := 35) (ci := 11) (vs := [.int (4 : Int32)]) (rest := []) (st2 := [.int q5.1]) dX11_feed_35 okX11_error (by decide) hkq5 hbq5 wd_314 wd_316 wp_0 pdX11_error rfl rfl rfl rfl (Nat.le_trans (by decide) hd) (Nat.le_of_ble_eq_true rfl) (T_X11_error (Nat.le_refl _) e5) rfl ?_
      exact bd_iret (pc := 38) hq dX11_feed_38 rfl
-- HoleWater$Reader.casesOf(LHoleWater$Row;Ljava/lang/String;)I
theorem dX5_casesOf_68 : decode cX5_casesOf 68 = .ok (.bipush (-10), 2) := by decide +kernel
theorem dX5_casesOf_70 : decode cX5_casesOf 70 = .ok (.aload_n 0, 1) := by decide +kernel
theorem dX5_casesOf_71 : decode cX5_casesOf 71 = .ok (.getfield 28, 3) := by decide +kernel
theorem dX5_casesOf_74 : decode cX5_casesOf 74 = .ok (.isub, 1) := by decide +kernel
theorem dX5_casesOf_75 : decode cX5_casesOf 75 = .ok (.ireturn, 1) := by decide +kernel
theorem dX5_casesOf_8 : decode cX5_casesOf 8 = .ok (.iload_n 3, 1) := by decide +kernel
theorem dX5_casesOf_9 : decode cX5_casesOf 9 = .ok (.bipush 6, 2) := by decide +kernel
theorem dX5_casesOf_11 : decode cX5_casesOf 11 = .ok (.if_icmp .gt 71, 3) := by decide +kernel
theorem dX5_casesOf_82 : decode cX5_casesOf 82 = .ok (.bipush (-10), 2) := by decide +kernel
theorem dX5_casesOf_84 : decode cX5_casesOf 84 = .ok (.aload_n 0, 1) := by decide +kernel
theorem dX5_casesOf_85 : decode cX5_casesOf 85 = .ok (.getfield 28, 3) := by decide +kernel
theorem dX5_casesOf_88 : decode cX5_casesOf 88 = .ok (.isub, 1) := by decide +kernel
theorem dX5_casesOf_89 : decode cX5_casesOf 89 = .ok (.ireturn, 1) := by decide +kernel
theorem dX5_casesOf_14 : decode cX5_casesOf 14 = .ok (.aload_n 0, 1) := by decide +kernel
theorem dX5_casesOf_15 : decode cX5_casesOf 15 = .ok (.iconst 0, 1) := by decide +kernel
theorem dX5_casesOf_16 : decode cX5_casesOf 16 = .ok (.invokevirtual 39, 3) := by decide +kernel
theorem dX5_casesOf_19 : decode cX5_casesOf 19 = .ok (.pop, 1) := by decide +kernel
theorem dX5_casesOf_20 : decode cX5_casesOf 20 = .ok (.aload_n 0, 1) := by decide +kernel
theorem dX5_casesOf_21 : decode cX5_casesOf 21 = .ok (.invokevirtual 43, 3) := by decide +kernel
theorem dX5_casesOf_24 : decode cX5_casesOf 24 = .ok (.pop, 1) := by decide +kernel
theorem dX5_casesOf_25 : decode cX5_casesOf 25 = .ok (.aload_n 0, 1) := by decide +kernel
theorem dX5_casesOf_26 : decode cX5_casesOf 26 = .ok (.getfield 31, 3) := by decide +kernel
theorem dX5_casesOf_29 : decode cX5_casesOf 29 = .ok (.ifCond .eq 11, 3) := by decide +kernel
theorem dX5_casesOf_40 : decode cX5_casesOf 40 = .ok (.aload_n 0, 1) := by decide +kernel
theorem dX5_casesOf_41 : decode cX5_casesOf 41 = .ok (.getfield 28, 3) := by decide +kernel
theorem dX5_casesOf_44 : decode cX5_casesOf 44 = .ok (.aload_n 0, 1) := by decide +kernel
theorem dX5_casesOf_45 : decode cX5_casesOf 45 = .ok (.getfield 18, 3) := by decide +kernel
theorem dX5_casesOf_48 : decode cX5_casesOf 48 = .ok (.if_icmp .lt 5, 3) := by decide +kernel
theorem dX5_casesOf_53 : decode cX5_casesOf 53 = .ok (.iload_n 3, 1) := by decide +kernel
theorem dX5_casesOf_54 : decode cX5_casesOf 54 = .ok (.bipush 6, 2) := by decide +kernel
theorem dX5_casesOf_56 : decode cX5_casesOf 56 = .ok (.if_icmp .eq 12, 3) := by decide +kernel
theorem dX5_casesOf_59 : decode cX5_casesOf 59 = .ok (.aload_n 0, 1) := by decide +kernel
theorem dX5_casesOf_60 : decode cX5_casesOf 60 = .ok (.bipush 59, 2) := by decide +kernel
theorem dX5_casesOf_62 : decode cX5_casesOf 62 = .ok (.invokevirtual 47, 3) := by decide +kernel
theorem dX5_casesOf_65 : decode cX5_casesOf 65 = .ok (.ifCond .ne 11, 3) := by decide +kernel
theorem dX5_casesOf_76 : decode cX5_casesOf 76 = .ok (.iinc 3 1, 3) := by decide +kernel
theorem dX5_casesOf_79 : decode cX5_casesOf 79 = .ok (.goto (-71), 3) := by decide +kernel
theorem dX5_casesOf_51 : decode cX5_casesOf 51 = .ok (.iload_n 3, 1) := by decide +kernel
theorem dX5_casesOf_52 : decode cX5_casesOf 52 = .ok (.ireturn, 1) := by decide +kernel
theorem dX5_casesOf_32 : decode cX5_casesOf 32 = .ok (.bipush (-10), 2) := by decide +kernel
theorem dX5_casesOf_34 : decode cX5_casesOf 34 = .ok (.aload_n 0, 1) := by decide +kernel
theorem dX5_casesOf_35 : decode cX5_casesOf 35 = .ok (.getfield 28, 3) := by decide +kernel
theorem dX5_casesOf_38 : decode cX5_casesOf 38 = .ok (.isub, 1) := by decide +kernel
theorem dX5_casesOf_39 : decode cX5_casesOf 39 = .ok (.ireturn, 1) := by decide +kernel
theorem dX5_casesOf_0 : decode cX5_casesOf 0 = .ok (.aload_n 0, 1) := by decide +kernel
theorem dX5_casesOf_1 : decode cX5_casesOf 1 = .ok (.aload_n 1, 1) := by decide +kernel
theorem dX5_casesOf_2 : decode cX5_casesOf 2 = .ok (.aload_n 2, 1) := by decide +kernel
theorem dX5_casesOf_3 : decode cX5_casesOf 3 = .ok (.invokevirtual 35, 3) := by decide +kernel
theorem dX5_casesOf_6 : decode cX5_casesOf 6 = .ok (.iconst 1, 1) := by decide +kernel
theorem dX5_casesOf_7 : decode cX5_casesOf 7 = .ok (.istore_n 3, 1) := by decide +kernel
def D_X5_casesOf_68 (N : Nat) (h : mh_H) (l0 : Nat) : Option (Int32 × mh_H) :=
  (gI h 5 l0 4).bind fun v1 =>
  some ((-10 : Int32) - v1, h)
set_option maxHeartbeats 4000000 in
set_option maxRecDepth 100000 in
theorem T_X5_casesOf_68 {P : mh_E → Prop} {N d : Nat} (hd : 45 ≤ d) {z : (Int32 × mh_H)} {h : mh_H} {l0 : Nat} (hq : D_X5_casesOf_68 N h l0 = some z) : mh_go P d mX5_casesOf 68 [some (.ref l0), none, none, none] [] h (some (.int z.1)) z.2 := by
  unfold D_X5_casesOf_68 at hq
  refine st_bipush (pc := 68) (v := (-10 : Int32)) dX5_casesOf_68 (by decide) ?_
  refine st_aload_n (pc := 70) dX5_casesOf_70 rfl ?_
  refine bd_geti (pc := 71) hq dX5_casesOf_71 fl_5_28_5 rfl (fun v1 hq => ?_)
  refine st_isub (pc := 74) dX5_casesOf_74 ?_
  exact bd_iret (pc := 75) hq dX5_casesOf_75 rfl
def D_X5_casesOf_8 (N : Nat) : Nat → mh_H → Nat → Int32 → Option (Int32 × mh_H)
  | 0, _, _, _ => none
  | F + 1, h, l0, l3 =>
    if (6 : Int32) < l3 then ((gI h 5 l0 4).bind fun v1 =>
    some ((-10 : Int32) - v1, h))
    else (kO h 5 l0 <|
    (D_X5_sum N 12 h l0 (0 : Int32)).bind fun q1 =>
    kO q1.2 5 l0 <|
    (D_X5_tests N q1.2 l0).bind fun q2 =>
    (gI q2.2 5 l0 5).bind fun v3 =>
    if v3 = 0 then ((gI q2.2 5 l0 4).bind fun v4 =>
    (gI q2.2 5 l0 2).bind fun v5 =>
    if v4 < v5 then (if l3 = (6 : Int32) then (D_X5_casesOf_68 N q2.2 l0)
    else (kO q2.2 5 l0 <|
    (D_X5_take N q2.2 l0 (59 : Int32)).bind fun q6 =>
    if q6.1 = 0 then (D_X5_casesOf_68 N q6.2 l0)
    else ((D_X5_casesOf_8 N F) q6.2 l0 (l3 + Int32.ofInt (1)))))
    else (some (l3, q2.2)))
    else ((gI q2.2 5 l0 4).bind fun v4 =>
    some ((-10 : Int32) - v4, q2.2)))
set_option maxHeartbeats 4000000 in
set_option maxRecDepth 100000 in
theorem T_X5_casesOf_8 {P : mh_E → Prop} {N d : Nat} (hd : 45 ≤ d) {z : (Int32 × mh_H)} : ∀ (F : Nat) (h : mh_H) (l0 : Nat) (l3 : Int32), D_X5_casesOf_8 N F h l0 l3 = some z → mh_go P d mX5_casesOf 8 [some (.ref l0), none, none, some (.int l3)] [] h (some (.int z.1)) z.2 := by
  intro F
  induction F with
  | zero => intro h l0 l3 hq; rw [D_X5_casesOf_8] at hq; cases hq
  | succ F ih =>
    intro h l0 l3 hq
    rw [D_X5_casesOf_8] at hq
    refine st_iload_n (pc := 8) dX5_casesOf_8 rfl ?_
    refine st_bipush (pc := 9) (v := (6 : Int32)) dX5_casesOf_9 (by decide) ?_
    refine bd_icmp_gt (pc := 11) (tgt := 82) hq dX5_casesOf_11 (by decide) (fun _ hq => ?_) (fun _ hq => ?_)
    ·
      refine st_bipush (pc := 82) (v := (-10 : Int32)) dX5_casesOf_82 (by decide) ?_
      refine st_aload_n (pc := 84) dX5_casesOf_84 rfl ?_
      refine bd_geti (pc := 85) hq dX5_casesOf_85 fl_5_28_5 rfl (fun v1 hq => ?_)
      refine st_isub (pc := 88) dX5_casesOf_88 ?_
      exact bd_iret (pc := 89) hq dX5_casesOf_89 rfl
    ·
      refine st_aload_n (pc := 14) dX5_casesOf_14 rfl ?_
      refine st_iconst (pc := 15) (v := (0 : Int32)) dX5_casesOf_15 rfl ?_
      obtain ⟨⟨hbq1, hkq1⟩, hq⟩ := mh_oi hq
      obtain ⟨q1, e1, hq⟩ := mh_ob hq
      refine st_invV (pc := 16) (ci := 5) (vs := [.int (0 : Int32)]) (rest := []) (st2 := [.int q1.1]) dX5_casesOf_16 okX5_sum (by decide) hkq1 hbq1 wd_544 wd_546 wp_6 pdX5_sum rfl rfl rfl rfl (Nat.le_trans (by decide) hd) (Nat.le_of_ble_eq_true rfl) (T_X5_sum 12 _ (Nat.le_refl _) _ _ _ _ e1) rfl ?_
      refine st_pop (pc := 19) dX5_casesOf_19 rfl ?_
      refine st_aload_n (pc := 20) dX5_casesOf_20 rfl ?_
      obtain ⟨⟨hbq2, hkq2⟩, hq⟩ := mh_oi hq
      obtain ⟨q2, e2, hq⟩ := mh_ob hq
      refine st_invV (pc := 21) (ci := 5) (vs := []) (rest := []) (st2 := [.int q2.1]) dX5_casesOf_21 okX5_tests (by decide) hkq2 hbq2 wd_654 wd_656 wp_12 pdX5_tests rfl rfl rfl rfl (Nat.le_trans (by decide) hd) (Nat.le_of_ble_eq_true rfl) (T_X5_tests (Nat.le_refl _) e2) rfl ?_
      refine st_pop (pc := 24) dX5_casesOf_24 rfl ?_
      refine st_aload_n (pc := 25) dX5_casesOf_25 rfl ?_
      refine bd_geti (pc := 26) hq dX5_casesOf_26 fl_5_31_5 rfl (fun v3 hq => ?_)
      refine bd_if_eq (pc := 29) (tgt := 40) hq dX5_casesOf_29 (by decide) (fun _ hq => ?_) (fun _ hq => ?_)
      ·
        refine st_aload_n (pc := 40) dX5_casesOf_40 rfl ?_
        refine bd_geti (pc := 41) hq dX5_casesOf_41 fl_5_28_5 rfl (fun v4 hq => ?_)
        refine st_aload_n (pc := 44) dX5_casesOf_44 rfl ?_
        refine bd_geti (pc := 45) hq dX5_casesOf_45 fl_5_18_5 rfl (fun v5 hq => ?_)
        refine bd_icmp_lt (pc := 48) (tgt := 53) hq dX5_casesOf_48 (by decide) (fun _ hq => ?_) (fun _ hq => ?_)
        ·
          refine st_iload_n (pc := 53) dX5_casesOf_53 rfl ?_
          refine st_bipush (pc := 54) (v := (6 : Int32)) dX5_casesOf_54 (by decide) ?_
          refine bd_icmp_eq (pc := 56) (tgt := 68) hq dX5_casesOf_56 (by decide) (fun _ hq => ?_) (fun _ hq => ?_)
          ·
            refine st_lesS (lv' := [some (.ref l0), none, none, none]) ⟨Or.inr rfl, Or.inr rfl, Or.inr rfl, Or.inl rfl, trivial⟩ ?_
            exact T_X5_casesOf_68 hd hq
          ·
            refine st_aload_n (pc := 59) dX5_casesOf_59 rfl ?_
            refine st_bipush (pc := 60) (v := (59 : Int32)) dX5_casesOf_60 (by decide) ?_
            obtain ⟨⟨hbq6, hkq6⟩, hq⟩ := mh_oi hq
            obtain ⟨q6, e6, hq⟩ := mh_ob hq
            refine st_invV (pc := 62) (ci := 5) (vs := [.int (59 : Int32)]) (rest := []) (st2 := [.int q6.1]) dX5_casesOf_62 okX5_take (by decide) hkq6 hbq6 wd_567 wd_569 wp_11 pdX5_take rfl rfl rfl rfl (Nat.le_trans (by decide) hd) (Nat.le_of_ble_eq_true rfl) (T_X5_take (Nat.le_refl _) e6) rfl ?_
            refine bd_if_ne (pc := 65) (tgt := 76) hq dX5_casesOf_65 (by decide) (fun _ hq => ?_) (fun _ hq => ?_)
            ·
              refine st_lesS (lv' := [some (.ref l0), none, none, none]) ⟨Or.inr rfl, Or.inr rfl, Or.inr rfl, Or.inl rfl, trivial⟩ ?_
              exact T_X5_casesOf_68 hd hq
            ·
              refine st_iinc (pc := 76) (lv' := [some (.ref l0), none, none, some (.int (l3 + Int32.ofInt (1)))]) dX5_casesOf_76 rfl rfl (by decide) rfl ?_
              refine st_goto (pc := 79) (tgt := 8) dX5_casesOf_79 (by decide) ?_
              exact ih _ _ _ hq
        ·
          refine st_iload_n (pc := 51) dX5_casesOf_51 rfl ?_
          exact bd_iret (pc := 52) hq dX5_casesOf_52 rfl
      ·
        refine st_bipush (pc := 32) (v := (-10 : Int32)) dX5_casesOf_32 (by decide) ?_
        refine st_aload_n (pc := 34) dX5_casesOf_34 rfl ?_
        refine bd_geti (pc := 35) hq dX5_casesOf_35 fl_5_28_5 rfl (fun v4 hq => ?_)
        refine st_isub (pc := 38) dX5_casesOf_38 ?_
        exact bd_iret (pc := 39) hq dX5_casesOf_39 rfl
def D_X5_casesOf (N : Nat) (h : mh_H) (l0 : Nat) (l1 : Nat) (l2 : Nat) : Option (Int32 × mh_H) :=
  kO h 5 l0 <|
  (D_X5_begin N h l0 l1 l2).bind fun q1 =>
  D_X5_casesOf_8 N N q1 l0 (1 : Int32)
set_option maxHeartbeats 4000000 in
set_option maxRecDepth 100000 in
theorem T_X5_casesOf {P : mh_E → Prop} {N d : Nat} (hd : 45 ≤ d) {z : (Int32 × mh_H)} {h : mh_H} {l0 : Nat} {l1 : Nat} {l2 : Nat} (hq : D_X5_casesOf N h l0 l1 l2 = some z) : mh_go P d mX5_casesOf 0 [some (.ref l0), some (.ref l1), some (.ref l2), none] [] h (some (.int z.1)) z.2 := by
  unfold D_X5_casesOf at hq
  refine st_aload_n (pc := 0) dX5_casesOf_0 rfl ?_
  refine st_aload_n (pc := 1) dX5_casesOf_1 rfl ?_
  refine st_aload_n (pc := 2) dX5_casesOf_2 rfl ?_
  obtain ⟨⟨hbq1, hkq1⟩, hq⟩ := mh_oi hq
  obtain ⟨q1, e1, hq⟩ := mh_ob hq
  refine st_invV (pc := 3) (ci := 5) (vs := [.ref l1, .ref l2]) (rest := []) (st2 := []) dX5_casesOf_3 okX5_begin (by decide) hkq1 hbq1 wd_539 wd_541 wp_5 pdX5_begin rfl rfl rfl rfl (Nat.le_trans (by decide) hd) (Nat.le_of_ble_eq_true rfl) (T_X5_begin (Nat.le_refl _) e1) rfl ?_
  refine st_iconst (pc := 6) (v := (1 : Int32)) dX5_casesOf_6 rfl ?_
  refine st_istore_n (pc := 7) (lv' := [some (.ref l0), some (.ref l1), some (.ref l2), some (.int (1 : Int32))]) dX5_casesOf_7 rfl (by decide) rfl ?_
  refine st_lesS (lv' := [some (.ref l0), none, none, some (.int (1 : Int32))]) ⟨Or.inr rfl, Or.inl rfl, Or.inl rfl, Or.inr rfl, trivial⟩ ?_
  exact T_X5_casesOf_8 hd N _ _ _ hq
-- HoleWater$Row.copyOf(LHoleWater$Row;)V
theorem dX6_copyOf_0 : decode cX6_copyOf 0 = .ok (.aload_n 0, 1) := by decide +kernel
theorem dX6_copyOf_1 : decode cX6_copyOf 1 = .ok (.aload_n 1, 1) := by decide +kernel
theorem dX6_copyOf_2 : decode cX6_copyOf 2 = .ok (.getfield 7, 3) := by decide +kernel
theorem dX6_copyOf_5 : decode cX6_copyOf 5 = .ok (.aload_n 0, 1) := by decide +kernel
theorem dX6_copyOf_6 : decode cX6_copyOf 6 = .ok (.getfield 19, 3) := by decide +kernel
theorem dX6_copyOf_9 : decode cX6_copyOf 9 = .ok (.arraylength, 1) := by decide +kernel
theorem dX6_copyOf_10 : decode cX6_copyOf 10 = .ok (.invokestatic 23, 3) := by decide +kernel
theorem dX6_copyOf_13 : decode cX6_copyOf 13 = .ok (.putfield 7, 3) := by decide +kernel
theorem dX6_copyOf_16 : decode cX6_copyOf 16 = .ok (.aload_n 1, 1) := by decide +kernel
theorem dX6_copyOf_17 : decode cX6_copyOf 17 = .ok (.getfield 19, 3) := by decide +kernel
theorem dX6_copyOf_20 : decode cX6_copyOf 20 = .ok (.iconst 0, 1) := by decide +kernel
theorem dX6_copyOf_21 : decode cX6_copyOf 21 = .ok (.aload_n 0, 1) := by decide +kernel
theorem dX6_copyOf_22 : decode cX6_copyOf 22 = .ok (.getfield 19, 3) := by decide +kernel
theorem dX6_copyOf_25 : decode cX6_copyOf 25 = .ok (.iconst 0, 1) := by decide +kernel
theorem dX6_copyOf_26 : decode cX6_copyOf 26 = .ok (.aload_n 0, 1) := by decide +kernel
theorem dX6_copyOf_27 : decode cX6_copyOf 27 = .ok (.getfield 7, 3) := by decide +kernel
theorem dX6_copyOf_30 : decode cX6_copyOf 30 = .ok (.invokestatic 26, 3) := by decide +kernel
theorem dX6_copyOf_33 : decode cX6_copyOf 33 = .ok (.return_, 1) := by decide +kernel
def D_X6_copyOf (N : Nat) (h : mh_H) (l0 : Nat) (l1 : Nat) : Option mh_H :=
  (gI h 6 l1 1).bind fun v1 =>
  (gR h 6 l0 0).bind fun v2 =>
  (aL h v2).bind fun v3 =>
  (pI h 6 l0 1 (mh_min v1 v3)).bind fun h4 =>
  (gR h4 6 l1 0).bind fun v5 =>
  (gR h4 6 l0 0).bind fun v6 =>
  (gI h4 6 l0 1).bind fun v7 =>
  (cP h4 v5 v6 (0 : Int32) (0 : Int32) v7).bind fun h8 =>
  some h8
set_option maxHeartbeats 4000000 in
set_option maxRecDepth 100000 in
theorem T_X6_copyOf {P : mh_E → Prop} {N d : Nat} (hd : 1 ≤ d) {z : mh_H} {h : mh_H} {l0 : Nat} {l1 : Nat} (hq : D_X6_copyOf N h l0 l1 = some z) : mh_go P d mX6_copyOf 0 [some (.ref l0), some (.ref l1)] [] h none z := by
  unfold D_X6_copyOf at hq
  refine st_aload_n (pc := 0) dX6_copyOf_0 rfl ?_
  refine st_aload_n (pc := 1) dX6_copyOf_1 rfl ?_
  refine bd_geti (pc := 2) hq dX6_copyOf_2 fl_6_7_6 rfl (fun v1 hq => ?_)
  refine st_aload_n (pc := 5) dX6_copyOf_5 rfl ?_
  refine bd_getr (pc := 6) hq dX6_copyOf_6 fl_6_19_6 rfl (fun v2 hq => ?_)
  refine bd_alen (pc := 9) hq dX6_copyOf_9 (fun v3 hq => ?_)
  refine st_mmin (pc := 10) dX6_copyOf_10 wd_793 (Nat.le_trans (by decide) hd) (Nat.le_of_ble_eq_true rfl) ?_
  refine bd_puti (pc := 13) hq dX6_copyOf_13 fl_6_7_6 (Or.inl rfl) rfl (fun h4 hq => ?_)
  refine st_aload_n (pc := 16) dX6_copyOf_16 rfl ?_
  refine bd_getr (pc := 17) hq dX6_copyOf_17 fl_6_19_6 rfl (fun v5 hq => ?_)
  refine st_iconst (pc := 20) (v := (0 : Int32)) dX6_copyOf_20 rfl ?_
  refine st_aload_n (pc := 21) dX6_copyOf_21 rfl ?_
  refine bd_getr (pc := 22) hq dX6_copyOf_22 fl_6_19_6 rfl (fun v6 hq => ?_)
  refine st_iconst (pc := 25) (v := (0 : Int32)) dX6_copyOf_25 rfl ?_
  refine st_aload_n (pc := 26) dX6_copyOf_26 rfl ?_
  refine bd_geti (pc := 27) hq dX6_copyOf_27 fl_6_7_6 rfl (fun v7 hq => ?_)
  refine bd_copy (pc := 30) hq dX6_copyOf_30 wd_794 wd_766 wd_765 wd_21 (Nat.le_trans (by decide) hd) (Nat.le_of_ble_eq_true rfl) (fun h8 hq => ?_)
  exact bd_vret (pc := 33) hq dX6_copyOf_33 rfl
-- HoleWater.text(I)I
theorem dX11_text_78 : decode cX11_text 78 = .ok (.aload_n 0, 1) := by decide +kernel
theorem dX11_text_79 : decode cX11_text 79 = .ok (.getfield 10, 3) := by decide +kernel
theorem dX11_text_82 : decode cX11_text 82 = .ok (.getfield 230, 3) := by decide +kernel
theorem dX11_text_85 : decode cX11_text 85 = .ok (.iconst 0, 1) := by decide +kernel
theorem dX11_text_86 : decode cX11_text 86 = .ok (.putfield 233, 3) := by decide +kernel
theorem dX11_text_89 : decode cX11_text 89 = .ok (.iload_n 2, 1) := by decide +kernel
theorem dX11_text_90 : decode cX11_text 90 = .ok (.ireturn, 1) := by decide +kernel
theorem dX11_text_66 : decode cX11_text 66 = .ok (.astore_n 3, 1) := by decide +kernel
theorem dX11_text_67 : decode cX11_text 67 = .ok (.aload_n 3, 1) := by decide +kernel
theorem dX11_text_68 : decode cX11_text 68 = .ok (.aload_n 0, 1) := by decide +kernel
theorem dX11_text_69 : decode cX11_text 69 = .ok (.getfield 10, 3) := by decide +kernel
theorem dX11_text_72 : decode cX11_text 72 = .ok (.getfield 230, 3) := by decide +kernel
theorem dX11_text_75 : decode cX11_text 75 = .ok (.invokevirtual 253, 3) := by decide +kernel
theorem dX11_text_37 : decode cX11_text 37 = .ok (.invokevirtual 243, 3) := by decide +kernel
theorem dX11_text_40 : decode cX11_text 40 = .ok (.istore_n 2, 1) := by decide +kernel
theorem dX11_text_41 : decode cX11_text 41 = .ok (.iload_n 2, 1) := by decide +kernel
theorem dX11_text_42 : decode cX11_text 42 = .ok (.ifCond .le 36, 3) := by decide +kernel
theorem dX11_text_45 : decode cX11_text 45 = .ok (.iload_n 1, 1) := by decide +kernel
theorem dX11_text_46 : decode cX11_text 46 = .ok (.ifCond .ne 13, 3) := by decide +kernel
theorem dX11_text_49 : decode cX11_text 49 = .ok (.aload_n 0, 1) := by decide +kernel
theorem dX11_text_50 : decode cX11_text 50 = .ok (.getfield 10, 3) := by decide +kernel
theorem dX11_text_53 : decode cX11_text 53 = .ok (.getfield 247, 3) := by decide +kernel
theorem dX11_text_56 : decode cX11_text 56 = .ok (.goto 10, 3) := by decide +kernel
theorem dX11_text_59 : decode cX11_text 59 = .ok (.aload_n 0, 1) := by decide +kernel
theorem dX11_text_60 : decode cX11_text 60 = .ok (.getfield 10, 3) := by decide +kernel
theorem dX11_text_63 : decode cX11_text 63 = .ok (.getfield 250, 3) := by decide +kernel
theorem dX11_text_0 : decode cX11_text 0 = .ok (.iload_n 1, 1) := by decide +kernel
theorem dX11_text_1 : decode cX11_text 1 = .ok (.iconst 0, 1) := by decide +kernel
theorem dX11_text_2 : decode cX11_text 2 = .ok (.iconst 1, 1) := by decide +kernel
theorem dX11_text_3 : decode cX11_text 3 = .ok (.invokestatic 62, 3) := by decide +kernel
theorem dX11_text_6 : decode cX11_text 6 = .ok (.ifCond .ne 9, 3) := by decide +kernel
theorem dX11_text_9 : decode cX11_text 9 = .ok (.aload_n 0, 1) := by decide +kernel
theorem dX11_text_10 : decode cX11_text 10 = .ok (.iconst 1, 1) := by decide +kernel
theorem dX11_text_11 : decode cX11_text 11 = .ok (.invokevirtual 66, 3) := by decide +kernel
theorem dX11_text_14 : decode cX11_text 14 = .ok (.ireturn, 1) := by decide +kernel
theorem dX11_text_15 : decode cX11_text 15 = .ok (.aload_n 0, 1) := by decide +kernel
theorem dX11_text_16 : decode cX11_text 16 = .ok (.getfield 29, 3) := by decide +kernel
theorem dX11_text_19 : decode cX11_text 19 = .ok (.aload_n 0, 1) := by decide +kernel
theorem dX11_text_20 : decode cX11_text 20 = .ok (.getfield 10, 3) := by decide +kernel
theorem dX11_text_23 : decode cX11_text 23 = .ok (.getfield 230, 3) := by decide +kernel
theorem dX11_text_26 : decode cX11_text 26 = .ok (.iload_n 1, 1) := by decide +kernel
theorem dX11_text_27 : decode cX11_text 27 = .ok (.ifCond .ne 8, 3) := by decide +kernel
theorem dX11_text_30 : decode cX11_text 30 = .ok (.ldc 239, 2) := by decide +kernel
theorem dX11_text_32 : decode cX11_text 32 = .ok (.goto 5, 3) := by decide +kernel
theorem dX11_text_35 : decode cX11_text 35 = .ok (.ldc 241, 2) := by decide +kernel
def D_X11_text_78 (N : Nat) (h : mh_H) (l0 : Nat) (l2 : Int32) : Option (Int32 × mh_H) :=
  (gR h 11 l0 0).bind fun v1 =>
  (gR h 10 v1 9).bind fun v2 =>
  (pI h 6 v2 1 (0 : Int32)).bind fun h3 =>
  some (l2, h3)
set_option maxHeartbeats 4000000 in
set_option maxRecDepth 100000 in
theorem T_X11_text_78 {P : mh_E → Prop} {N d : Nat} (hd : 46 ≤ d) {z : (Int32 × mh_H)} {h : mh_H} {l0 : Nat} {l2 : Int32} (hq : D_X11_text_78 N h l0 l2 = some z) : mh_go P d mX11_text 78 [some (.ref l0), none, some (.int l2), none] [] h (some (.int z.1)) z.2 := by
  unfold D_X11_text_78 at hq
  refine st_aload_n (pc := 78) dX11_text_78 rfl ?_
  refine bd_getr (pc := 79) hq dX11_text_79 fl_11_10_11 rfl (fun v1 hq => ?_)
  refine bd_getr (pc := 82) hq dX11_text_82 fl_11_230_10 rfl (fun v2 hq => ?_)
  refine st_iconst (pc := 85) (v := (0 : Int32)) dX11_text_85 rfl ?_
  refine bd_puti (pc := 86) hq dX11_text_86 fl_11_233_6 (Or.inl rfl) rfl (fun h3 hq => ?_)
  refine st_iload_n (pc := 89) dX11_text_89 rfl ?_
  exact bd_iret (pc := 90) hq dX11_text_90 rfl
def D_X11_text_66 (N : Nat) (h : mh_H) (l0 : Nat) (l2 : Int32) (s0 : Nat) : Option (Int32 × mh_H) :=
  (gR h 11 l0 0).bind fun v1 =>
  (gR h 10 v1 9).bind fun v2 =>
  kO h 6 s0 <|
  (D_X6_copyOf N h s0 v2).bind fun q3 =>
  D_X11_text_78 N q3 l0 l2
set_option maxHeartbeats 4000000 in
set_option maxRecDepth 100000 in
theorem T_X11_text_66 {P : mh_E → Prop} {N d : Nat} (hd : 46 ≤ d) {z : (Int32 × mh_H)} {h : mh_H} {l0 : Nat} {l2 : Int32} {s0 : Nat} (hq : D_X11_text_66 N h l0 l2 s0 = some z) : mh_go P d mX11_text 66 [some (.ref l0), none, some (.int l2), none] [.ref s0] h (some (.int z.1)) z.2 := by
  unfold D_X11_text_66 at hq
  refine st_astore_n (pc := 66) (lv' := [some (.ref l0), none, some (.int l2), some (.ref s0)]) dX11_text_66 rfl (by decide) rfl ?_
  refine st_aload_n (pc := 67) dX11_text_67 rfl ?_
  refine st_aload_n (pc := 68) dX11_text_68 rfl ?_
  refine bd_getr (pc := 69) hq dX11_text_69 fl_11_10_11 rfl (fun v1 hq => ?_)
  refine bd_getr (pc := 72) hq dX11_text_72 fl_11_230_10 rfl (fun v2 hq => ?_)
  obtain ⟨⟨hbq3, hkq3⟩, hq⟩ := mh_oi hq
  obtain ⟨q3, e3, hq⟩ := mh_ob hq
  refine st_invV (pc := 75) (ci := 6) (vs := [.ref v2]) (rest := []) (st2 := []) dX11_text_75 okX6_copyOf (by decide) hkq3 hbq3 wd_789 wd_790 wd_791 pdX6_copyOf rfl rfl rfl rfl (Nat.le_trans (by decide) hd) (Nat.le_of_ble_eq_true rfl) (T_X6_copyOf (Nat.le_refl _) e3) rfl ?_
  refine st_lesS (lv' := [some (.ref l0), none, some (.int l2), none]) ⟨Or.inr rfl, Or.inr rfl, Or.inr rfl, Or.inl rfl, trivial⟩ ?_
  exact T_X11_text_78 hd hq
def D_X11_text_37 (N : Nat) (h : mh_H) (l0 : Nat) (l1 : Int32) (s0 : Nat) (s1 : Nat) (s2 : Nat) : Option (Int32 × mh_H) :=
  kO h 5 s0 <|
  (D_X5_casesOf N h s0 s1 s2).bind fun q1 =>
  if q1.1 ≤ 0 then (D_X11_text_78 N q1.2 l0 q1.1)
  else (if l1 = 0 then ((gR q1.2 11 l0 0).bind fun v2 =>
  (gR q1.2 10 v2 10).bind fun v3 =>
  D_X11_text_66 N q1.2 l0 q1.1 v3)
  else ((gR q1.2 11 l0 0).bind fun v2 =>
  (gR q1.2 10 v2 11).bind fun v3 =>
  D_X11_text_66 N q1.2 l0 q1.1 v3))
set_option maxHeartbeats 4000000 in
set_option maxRecDepth 100000 in
theorem T_X11_text_37 {P : mh_E → Prop} {N d : Nat} (hd : 46 ≤ d) {z : (Int32 × mh_H)} {h : mh_H} {l0 : Nat} {l1 : Int32} {s0 : Nat} {s1 : Nat} {s2 : Nat} (hq : D_X11_text_37 N h l0 l1 s0 s1 s2 = some z) : mh_go P d mX11_text 37 [some (.ref l0), some (.int l1), none, none] [.ref s2, .ref s1, .ref s0] h (some (.int z.1)) z.2 := by
  unfold D_X11_text_37 at hq
  obtain ⟨⟨hbq1, hkq1⟩, hq⟩ := mh_oi hq
  obtain ⟨q1, e1, hq⟩ := mh_ob hq
  refine st_invV (pc := 37) (ci := 5) (vs := [.ref s1, .ref s2]) (rest := []) (st2 := [.int q1.1]) dX11_text_37 okX5_casesOf (by decide) hkq1 hbq1 wd_785 wd_786 wd_787 pdX5_casesOf rfl rfl rfl rfl (Nat.le_trans (by decide) hd) (Nat.le_of_ble_eq_true rfl) (T_X5_casesOf (Nat.le_refl _) e1) rfl ?_
  refine st_istore_n (pc := 40) (lv' := [some (.ref l0), some (.int l1), some (.int q1.1), none]) dX11_text_40 rfl (by decide) rfl ?_
  refine st_iload_n (pc := 41) dX11_text_41 rfl ?_
  refine bd_if_le (pc := 42) (tgt := 78) hq dX11_text_42 (by decide) (fun _ hq => ?_) (fun _ hq => ?_)
  ·
    refine st_lesS (lv' := [some (.ref l0), none, some (.int q1.1), none]) ⟨Or.inr rfl, Or.inl rfl, Or.inr rfl, Or.inr rfl, trivial⟩ ?_
    exact T_X11_text_78 hd hq
  ·
    refine st_iload_n (pc := 45) dX11_text_45 rfl ?_
    refine bd_if_ne (pc := 46) (tgt := 59) hq dX11_text_46 (by decide) (fun _ hq => ?_) (fun _ hq => ?_)
    ·
      refine st_aload_n (pc := 49) dX11_text_49 rfl ?_
      refine bd_getr (pc := 50) hq dX11_text_50 fl_11_10_11 rfl (fun v2 hq => ?_)
      refine bd_getr (pc := 53) hq dX11_text_53 fl_11_247_10 rfl (fun v3 hq => ?_)
      refine st_goto (pc := 56) (tgt := 66) dX11_text_56 (by decide) ?_
      refine st_lesS (lv' := [some (.ref l0), none, some (.int q1.1), none]) ⟨Or.inr rfl, Or.inl rfl, Or.inr rfl, Or.inr rfl, trivial⟩ ?_
      exact T_X11_text_66 hd hq
    ·
      refine st_aload_n (pc := 59) dX11_text_59 rfl ?_
      refine bd_getr (pc := 60) hq dX11_text_60 fl_11_10_11 rfl (fun v2 hq => ?_)
      refine bd_getr (pc := 63) hq dX11_text_63 fl_11_250_10 rfl (fun v3 hq => ?_)
      refine st_lesS (lv' := [some (.ref l0), none, some (.int q1.1), none]) ⟨Or.inr rfl, Or.inl rfl, Or.inr rfl, Or.inr rfl, trivial⟩ ?_
      exact T_X11_text_66 hd hq
def D_X11_text (N : Nat) (h : mh_H) (l0 : Nat) (l1 : Int32) : Option (Int32 × mh_H) :=
  (D_X11_within N h l1 (0 : Int32) (1 : Int32)).bind fun q1 =>
  if q1.1 = 0 then (kO q1.2 11 l0 <|
  (D_X11_error N q1.2 l0 (1 : Int32)).bind fun q2 =>
  some (q2.1, q2.2))
  else ((gR q1.2 11 l0 3).bind fun v2 =>
  (gR q1.2 11 l0 0).bind fun v3 =>
  (gR q1.2 10 v3 9).bind fun v4 =>
  if l1 = 0 then (D_X11_text_37 N q1.2 l0 l1 v2 v4 1000000001)
  else (D_X11_text_37 N q1.2 l0 l1 v2 v4 1000000002))
set_option maxHeartbeats 4000000 in
set_option maxRecDepth 100000 in
theorem T_X11_text {P : mh_E → Prop} {N d : Nat} (hd : 46 ≤ d) {z : (Int32 × mh_H)} {h : mh_H} {l0 : Nat} {l1 : Int32} (hq : D_X11_text N h l0 l1 = some z) : mh_go P d mX11_text 0 [some (.ref l0), some (.int l1), none, none] [] h (some (.int z.1)) z.2 := by
  unfold D_X11_text at hq
  refine st_iload_n (pc := 0) dX11_text_0 rfl ?_
  refine st_iconst (pc := 1) (v := (0 : Int32)) dX11_text_1 rfl ?_
  refine st_iconst (pc := 2) (v := (1 : Int32)) dX11_text_2 rfl ?_
  obtain ⟨q1, e1, hq⟩ := mh_ob hq
  refine st_invS (pc := 3) (Y := mX11_within) (vs := [.int l1, .int (0 : Int32), .int (1 : Int32)]) (rest := []) (st2 := [.int q1.1]) dX11_text_3 okX11_within wd_311 wd_312 pdX11_within rfl rfl rfl rfl (Nat.le_trans (by decide) hd) (Nat.le_of_ble_eq_true rfl) (T_X11_within (Nat.le_refl _) e1) rfl ?_
  refine bd_if_ne (pc := 6) (tgt := 15) hq dX11_text_6 (by decide) (fun _ hq => ?_) (fun _ hq => ?_)
  ·
    refine st_aload_n (pc := 9) dX11_text_9 rfl ?_
    refine st_iconst (pc := 10) (v := (1 : Int32)) dX11_text_10 rfl ?_
    obtain ⟨⟨hbq2, hkq2⟩, hq⟩ := mh_oi hq
    obtain ⟨q2, e2, hq⟩ := mh_ob hq
    refine st_invV (pc := 11) (ci := 11) (vs := [.int (1 : Int32)]) (rest := []) (st2 := [.int q2.1]) dX11_text_11 okX11_error (by decide) hkq2 hbq2 wd_314 wd_316 wp_0 pdX11_error rfl rfl rfl rfl (Nat.le_trans (by decide) hd) (Nat.le_of_ble_eq_true rfl) (T_X11_error (Nat.le_refl _) e2) rfl ?_
    exact bd_iret (pc := 14) hq dX11_text_14 rfl
  ·
    refine st_aload_n (pc := 15) dX11_text_15 rfl ?_
    refine bd_getr (pc := 16) hq dX11_text_16 fl_11_29_11 rfl (fun v2 hq => ?_)
    refine st_aload_n (pc := 19) dX11_text_19 rfl ?_
    refine bd_getr (pc := 20) hq dX11_text_20 fl_11_10_11 rfl (fun v3 hq => ?_)
    refine bd_getr (pc := 23) hq dX11_text_23 fl_11_230_10 rfl (fun v4 hq => ?_)
    refine st_iload_n (pc := 26) dX11_text_26 rfl ?_
    refine bd_if_ne (pc := 27) (tgt := 35) hq dX11_text_27 (by decide) (fun _ hq => ?_) (fun _ hq => ?_)
    ·
      refine st_ldcS (pc := 30) (i := 0) (tx := "hdkf") dX11_text_30 (by decide) ?_
      refine st_goto (pc := 32) (tgt := 37) dX11_text_32 (by decide) ?_
      exact T_X11_text_37 hd hq
    ·
      refine st_ldcS (pc := 35) (i := 1) (tx := "wcs") dX11_text_35 (by decide) ?_
      exact T_X11_text_37 hd hq
-- HoleWater.rain(I)I
theorem dX11_rain_0 : decode cX11_rain 0 = .ok (.aload_n 0, 1) := by decide +kernel
theorem dX11_rain_1 : decode cX11_rain 1 = .ok (.getfield 10, 3) := by decide +kernel
theorem dX11_rain_4 : decode cX11_rain 4 = .ok (.iload_n 1, 1) := by decide +kernel
theorem dX11_rain_5 : decode cX11_rain 5 = .ok (.invokevirtual 77, 3) := by decide +kernel
theorem dX11_rain_8 : decode cX11_rain 8 = .ok (.ifCond .ne 9, 3) := by decide +kernel
theorem dX11_rain_11 : decode cX11_rain 11 = .ok (.aload_n 0, 1) := by decide +kernel
theorem dX11_rain_12 : decode cX11_rain 12 = .ok (.iconst 1, 1) := by decide +kernel
theorem dX11_rain_13 : decode cX11_rain 13 = .ok (.invokevirtual 66, 3) := by decide +kernel
theorem dX11_rain_16 : decode cX11_rain 16 = .ok (.ireturn, 1) := by decide +kernel
theorem dX11_rain_17 : decode cX11_rain 17 = .ok (.aload_n 0, 1) := by decide +kernel
theorem dX11_rain_18 : decode cX11_rain 18 = .ok (.getfield 10, 3) := by decide +kernel
theorem dX11_rain_21 : decode cX11_rain 21 = .ok (.iload_n 1, 1) := by decide +kernel
theorem dX11_rain_22 : decode cX11_rain 22 = .ok (.iconst 0, 1) := by decide +kernel
theorem dX11_rain_23 : decode cX11_rain 23 = .ok (.invokevirtual 112, 3) := by decide +kernel
theorem dX11_rain_26 : decode cX11_rain 26 = .ok (.ifCond .eq 25, 3) := by decide +kernel
theorem dX11_rain_51 : decode cX11_rain 51 = .ok (.aload_n 0, 1) := by decide +kernel
theorem dX11_rain_52 : decode cX11_rain 52 = .ok (.iconst 5, 1) := by decide +kernel
theorem dX11_rain_53 : decode cX11_rain 53 = .ok (.invokevirtual 66, 3) := by decide +kernel
theorem dX11_rain_56 : decode cX11_rain 56 = .ok (.ireturn, 1) := by decide +kernel
theorem dX11_rain_29 : decode cX11_rain 29 = .ok (.aload_n 0, 1) := by decide +kernel
theorem dX11_rain_30 : decode cX11_rain 30 = .ok (.getfield 10, 3) := by decide +kernel
theorem dX11_rain_33 : decode cX11_rain 33 = .ok (.iload_n 1, 1) := by decide +kernel
theorem dX11_rain_34 : decode cX11_rain 34 = .ok (.aload_n 0, 1) := by decide +kernel
theorem dX11_rain_35 : decode cX11_rain 35 = .ok (.getfield 10, 3) := by decide +kernel
theorem dX11_rain_38 : decode cX11_rain 38 = .ok (.getfield 90, 3) := by decide +kernel
theorem dX11_rain_41 : decode cX11_rain 41 = .ok (.aload_n 0, 1) := by decide +kernel
theorem dX11_rain_42 : decode cX11_rain 42 = .ok (.getfield 29, 3) := by decide +kernel
theorem dX11_rain_45 : decode cX11_rain 45 = .ok (.invokevirtual 257, 3) := by decide +kernel
theorem dX11_rain_48 : decode cX11_rain 48 = .ok (.goto 8, 3) := by decide +kernel
def D_X11_rain (N : Nat) (h : mh_H) (l0 : Nat) (l1 : Int32) : Option (Int32 × mh_H) :=
  (gR h 11 l0 0).bind fun v1 =>
  kO h 10 v1 <|
  (D_X10_isJoint N h v1 l1).bind fun q2 =>
  if q2.1 = 0 then (kO q2.2 11 l0 <|
  (D_X11_error N q2.2 l0 (1 : Int32)).bind fun q3 =>
  some (q3.1, q3.2))
  else ((gR q2.2 11 l0 0).bind fun v3 =>
  kO q2.2 10 v3 <|
  (D_X10_isOf N q2.2 v3 l1 (0 : Int32)).bind fun q4 =>
  if q4.1 = 0 then (kO q4.2 11 l0 <|
  (D_X11_error N q4.2 l0 (5 : Int32)).bind fun q5 =>
  some (q5.1, q5.2))
  else ((gR q4.2 11 l0 0).bind fun v5 =>
  (gR q4.2 11 l0 0).bind fun v6 =>
  (gR q4.2 10 v6 7).bind fun v7 =>
  (gR q4.2 11 l0 3).bind fun v8 =>
  kO q4.2 10 v5 <|
  (D_X10_rainOn N q4.2 v5 l1 v7 v8).bind fun q9 =>
  some (q9.1, q9.2)))
set_option maxHeartbeats 4000000 in
set_option maxRecDepth 100000 in
theorem T_X11_rain {P : mh_E → Prop} {N d : Nat} (hd : 47 ≤ d) {z : (Int32 × mh_H)} {h : mh_H} {l0 : Nat} {l1 : Int32} (hq : D_X11_rain N h l0 l1 = some z) : mh_go P d mX11_rain 0 [some (.ref l0), some (.int l1)] [] h (some (.int z.1)) z.2 := by
  unfold D_X11_rain at hq
  refine st_aload_n (pc := 0) dX11_rain_0 rfl ?_
  refine bd_getr (pc := 1) hq dX11_rain_1 fl_11_10_11 rfl (fun v1 hq => ?_)
  refine st_iload_n (pc := 4) dX11_rain_4 rfl ?_
  obtain ⟨⟨hbq2, hkq2⟩, hq⟩ := mh_oi hq
  obtain ⟨q2, e2, hq⟩ := mh_ob hq
  refine st_invV (pc := 5) (ci := 10) (vs := [.int l1]) (rest := []) (st2 := [.int q2.1]) dX11_rain_5 okX10_isJoint (by decide) hkq2 hbq2 wd_327 wd_328 wd_329 pdX10_isJoint rfl rfl rfl rfl (Nat.le_trans (by decide) hd) (Nat.le_of_ble_eq_true rfl) (T_X10_isJoint (Nat.le_refl _) e2) rfl ?_
  refine bd_if_ne (pc := 8) (tgt := 17) hq dX11_rain_8 (by decide) (fun _ hq => ?_) (fun _ hq => ?_)
  ·
    refine st_aload_n (pc := 11) dX11_rain_11 rfl ?_
    refine st_iconst (pc := 12) (v := (1 : Int32)) dX11_rain_12 rfl ?_
    obtain ⟨⟨hbq3, hkq3⟩, hq⟩ := mh_oi hq
    obtain ⟨q3, e3, hq⟩ := mh_ob hq
    refine st_invV (pc := 13) (ci := 11) (vs := [.int (1 : Int32)]) (rest := []) (st2 := [.int q3.1]) dX11_rain_13 okX11_error (by decide) hkq3 hbq3 wd_314 wd_316 wp_0 pdX11_error rfl rfl rfl rfl (Nat.le_trans (by decide) hd) (Nat.le_of_ble_eq_true rfl) (T_X11_error (Nat.le_refl _) e3) rfl ?_
    exact bd_iret (pc := 16) hq dX11_rain_16 rfl
  ·
    refine st_aload_n (pc := 17) dX11_rain_17 rfl ?_
    refine bd_getr (pc := 18) hq dX11_rain_18 fl_11_10_11 rfl (fun v3 hq => ?_)
    refine st_iload_n (pc := 21) dX11_rain_21 rfl ?_
    refine st_iconst (pc := 22) (v := (0 : Int32)) dX11_rain_22 rfl ?_
    obtain ⟨⟨hbq4, hkq4⟩, hq⟩ := mh_oi hq
    obtain ⟨q4, e4, hq⟩ := mh_ob hq
    refine st_invV (pc := 23) (ci := 10) (vs := [.int l1, .int (0 : Int32)]) (rest := []) (st2 := [.int q4.1]) dX11_rain_23 okX10_isOf (by decide) hkq4 hbq4 wd_347 wd_343 wd_344 pdX10_isOf rfl rfl rfl rfl (Nat.le_trans (by decide) hd) (Nat.le_of_ble_eq_true rfl) (T_X10_isOf (Nat.le_refl _) e4) rfl ?_
    refine bd_if_eq (pc := 26) (tgt := 51) hq dX11_rain_26 (by decide) (fun _ hq => ?_) (fun _ hq => ?_)
    ·
      refine st_aload_n (pc := 51) dX11_rain_51 rfl ?_
      refine st_iconst (pc := 52) (v := (5 : Int32)) dX11_rain_52 rfl ?_
      obtain ⟨⟨hbq5, hkq5⟩, hq⟩ := mh_oi hq
      obtain ⟨q5, e5, hq⟩ := mh_ob hq
      refine st_invV (pc := 53) (ci := 11) (vs := [.int (5 : Int32)]) (rest := []) (st2 := [.int q5.1]) dX11_rain_53 okX11_error (by decide) hkq5 hbq5 wd_314 wd_316 wp_0 pdX11_error rfl rfl rfl rfl (Nat.le_trans (by decide) hd) (Nat.le_of_ble_eq_true rfl) (T_X11_error (Nat.le_refl _) e5) rfl ?_
      exact bd_iret (pc := 56) hq dX11_rain_56 rfl
    ·
      refine st_aload_n (pc := 29) dX11_rain_29 rfl ?_
      refine bd_getr (pc := 30) hq dX11_rain_30 fl_11_10_11 rfl (fun v5 hq => ?_)
      refine st_iload_n (pc := 33) dX11_rain_33 rfl ?_
      refine st_aload_n (pc := 34) dX11_rain_34 rfl ?_
      refine bd_getr (pc := 35) hq dX11_rain_35 fl_11_10_11 rfl (fun v6 hq => ?_)
      refine bd_getr (pc := 38) hq dX11_rain_38 fl_11_90_10 rfl (fun v7 hq => ?_)
      refine st_aload_n (pc := 41) dX11_rain_41 rfl ?_
      refine bd_getr (pc := 42) hq dX11_rain_42 fl_11_29_11 rfl (fun v8 hq => ?_)
      obtain ⟨⟨hbq9, hkq9⟩, hq⟩ := mh_oi hq
      obtain ⟨q9, e9, hq⟩ := mh_ob hq
      refine st_invV (pc := 45) (ci := 10) (vs := [.int l1, .ref v7, .ref v8]) (rest := []) (st2 := [.int q9.1]) dX11_rain_45 okX10_rainOn (by decide) hkq9 hbq9 wd_799 wd_531 wd_532 pdX10_rainOn rfl rfl rfl rfl (Nat.le_trans (by decide) hd) (Nat.le_of_ble_eq_true rfl) (T_X10_rainOn (Nat.le_refl _) e9) rfl ?_
      refine st_goto (pc := 48) (tgt := 56) dX11_rain_48 (by decide) ?_
      exact bd_iret (pc := 56) hq dX11_rain_56 rfl
-- HoleWater$World.seenAt(IIILHoleWater$Reader;)I
theorem dX10_seenAt_0 : decode cX10_seenAt 0 = .ok (.aload_n 0, 1) := by decide +kernel
theorem dX10_seenAt_1 : decode cX10_seenAt 1 = .ok (.getfield 63, 3) := by decide +kernel
theorem dX10_seenAt_4 : decode cX10_seenAt 4 = .ok (.getfield 113, 3) := by decide +kernel
theorem dX10_seenAt_7 : decode cX10_seenAt 7 = .ok (.ifCond .ne 5, 3) := by decide +kernel
theorem dX10_seenAt_10 : decode cX10_seenAt 10 = .ok (.iconst 5, 1) := by decide +kernel
theorem dX10_seenAt_11 : decode cX10_seenAt 11 = .ok (.ireturn, 1) := by decide +kernel
theorem dX10_seenAt_12 : decode cX10_seenAt 12 = .ok (.aload 4, 2) := by decide +kernel
theorem dX10_seenAt_14 : decode cX10_seenAt 14 = .ok (.getfield 116, 3) := by decide +kernel
theorem dX10_seenAt_17 : decode cX10_seenAt 17 = .ok (.iconst 0, 1) := by decide +kernel
theorem dX10_seenAt_18 : decode cX10_seenAt 18 = .ok (.aload_n 0, 1) := by decide +kernel
theorem dX10_seenAt_19 : decode cX10_seenAt 19 = .ok (.getfield 40, 3) := by decide +kernel
theorem dX10_seenAt_22 : decode cX10_seenAt 22 = .ok (.getfield 135, 3) := by decide +kernel
theorem dX10_seenAt_25 : decode cX10_seenAt 25 = .ok (.iload_n 1, 1) := by decide +kernel
theorem dX10_seenAt_26 : decode cX10_seenAt 26 = .ok (.iaload, 1) := by decide +kernel
theorem dX10_seenAt_27 : decode cX10_seenAt 27 = .ok (.iastore, 1) := by decide +kernel
theorem dX10_seenAt_28 : decode cX10_seenAt 28 = .ok (.aload 4, 2) := by decide +kernel
theorem dX10_seenAt_30 : decode cX10_seenAt 30 = .ok (.getfield 116, 3) := by decide +kernel
theorem dX10_seenAt_33 : decode cX10_seenAt 33 = .ok (.iconst 1, 1) := by decide +kernel
theorem dX10_seenAt_34 : decode cX10_seenAt 34 = .ok (.iload_n 2, 1) := by decide +kernel
theorem dX10_seenAt_35 : decode cX10_seenAt 35 = .ok (.iastore, 1) := by decide +kernel
theorem dX10_seenAt_36 : decode cX10_seenAt 36 = .ok (.aload 4, 2) := by decide +kernel
theorem dX10_seenAt_38 : decode cX10_seenAt 38 = .ok (.getfield 116, 3) := by decide +kernel
theorem dX10_seenAt_41 : decode cX10_seenAt 41 = .ok (.iconst 2, 1) := by decide +kernel
theorem dX10_seenAt_42 : decode cX10_seenAt 42 = .ok (.iload_n 3, 1) := by decide +kernel
theorem dX10_seenAt_43 : decode cX10_seenAt 43 = .ok (.iastore, 1) := by decide +kernel
theorem dX10_seenAt_44 : decode cX10_seenAt 44 = .ok (.aload 4, 2) := by decide +kernel
theorem dX10_seenAt_46 : decode cX10_seenAt 46 = .ok (.aload_n 0, 1) := by decide +kernel
theorem dX10_seenAt_47 : decode cX10_seenAt 47 = .ok (.getfield 63, 3) := by decide +kernel
theorem dX10_seenAt_50 : decode cX10_seenAt 50 = .ok (.ldc 138, 2) := by decide +kernel
theorem dX10_seenAt_52 : decode cX10_seenAt 52 = .ok (.invokevirtual 127, 3) := by decide +kernel
theorem dX10_seenAt_55 : decode cX10_seenAt 55 = .ok (.iconst 1, 1) := by decide +kernel
theorem dX10_seenAt_56 : decode cX10_seenAt 56 = .ok (.sipush 9999, 3) := by decide +kernel
theorem dX10_seenAt_59 : decode cX10_seenAt 59 = .ok (.invokestatic 131, 3) := by decide +kernel
theorem dX10_seenAt_62 : decode cX10_seenAt 62 = .ok (.ireturn, 1) := by decide +kernel
def D_X10_seenAt (N : Nat) (h : mh_H) (l0 : Nat) (l1 : Int32) (l2 : Int32) (l3 : Int32) (l4 : Nat) : Option (Int32 × mh_H) :=
  (gR h 10 l0 11).bind fun v1 =>
  (gI h 6 v1 1).bind fun v2 =>
  if v2 = 0 then (some ((5 : Int32), h))
  else ((gR h 5 l4 0).bind fun v3 =>
  (gR h 10 l0 7).bind fun v4 =>
  (gR h 8 v4 8).bind fun v5 =>
  (aI h v5 l1).bind fun v6 =>
  (uI h v3 (0 : Int32) v6).bind fun h7 =>
  (gR h7 5 l4 0).bind fun v8 =>
  (uI h7 v8 (1 : Int32) l2).bind fun h9 =>
  (gR h9 5 l4 0).bind fun v10 =>
  (uI h9 v10 (2 : Int32) l3).bind fun h11 =>
  (gR h11 10 l0 11).bind fun v12 =>
  kO h11 5 l4 <|
  (D_X5_toldBy N h11 l4 v12 1000000002).bind fun q13 =>
  (D_X11_held N q13.2 q13.1 (1 : Int32) (9999 : Int32)).bind fun q14 =>
  some (q14.1, q14.2))
set_option maxHeartbeats 4000000 in
set_option maxRecDepth 100000 in
theorem T_X10_seenAt {P : mh_E → Prop} {N d : Nat} (hd : 46 ≤ d) {z : (Int32 × mh_H)} {h : mh_H} {l0 : Nat} {l1 : Int32} {l2 : Int32} {l3 : Int32} {l4 : Nat} (hq : D_X10_seenAt N h l0 l1 l2 l3 l4 = some z) : mh_go P d mX10_seenAt 0 [some (.ref l0), some (.int l1), some (.int l2), some (.int l3), some (.ref l4)] [] h (some (.int z.1)) z.2 := by
  unfold D_X10_seenAt at hq
  refine st_aload_n (pc := 0) dX10_seenAt_0 rfl ?_
  refine bd_getr (pc := 1) hq dX10_seenAt_1 fl_10_63_10 rfl (fun v1 hq => ?_)
  refine bd_geti (pc := 4) hq dX10_seenAt_4 fl_10_113_6 rfl (fun v2 hq => ?_)
  refine bd_if_ne (pc := 7) (tgt := 12) hq dX10_seenAt_7 (by decide) (fun _ hq => ?_) (fun _ hq => ?_)
  ·
    refine st_iconst (pc := 10) (v := (5 : Int32)) dX10_seenAt_10 rfl ?_
    exact bd_iret (pc := 11) hq dX10_seenAt_11 rfl
  ·
    refine st_aload (pc := 12) dX10_seenAt_12 rfl ?_
    refine bd_getr (pc := 14) hq dX10_seenAt_14 fl_10_116_5 rfl (fun v3 hq => ?_)
    refine st_iconst (pc := 17) (v := (0 : Int32)) dX10_seenAt_17 rfl ?_
    refine st_aload_n (pc := 18) dX10_seenAt_18 rfl ?_
    refine bd_getr (pc := 19) hq dX10_seenAt_19 fl_10_40_10 rfl (fun v4 hq => ?_)
    refine bd_getr (pc := 22) hq dX10_seenAt_22 fl_10_135_8 rfl (fun v5 hq => ?_)
    refine st_iload_n (pc := 25) dX10_seenAt_25 rfl ?_
    refine bd_iald (pc := 26) hq dX10_seenAt_26 (fun v6 hq => ?_)
    refine bd_iast (pc := 27) hq dX10_seenAt_27 (fun h7 hq => ?_)
    refine st_aload (pc := 28) dX10_seenAt_28 rfl ?_
    refine bd_getr (pc := 30) hq dX10_seenAt_30 fl_10_116_5 rfl (fun v8 hq => ?_)
    refine st_iconst (pc := 33) (v := (1 : Int32)) dX10_seenAt_33 rfl ?_
    refine st_iload_n (pc := 34) dX10_seenAt_34 rfl ?_
    refine bd_iast (pc := 35) hq dX10_seenAt_35 (fun h9 hq => ?_)
    refine st_aload (pc := 36) dX10_seenAt_36 rfl ?_
    refine bd_getr (pc := 38) hq dX10_seenAt_38 fl_10_116_5 rfl (fun v10 hq => ?_)
    refine st_iconst (pc := 41) (v := (2 : Int32)) dX10_seenAt_41 rfl ?_
    refine st_iload_n (pc := 42) dX10_seenAt_42 rfl ?_
    refine bd_iast (pc := 43) hq dX10_seenAt_43 (fun h11 hq => ?_)
    refine st_aload (pc := 44) dX10_seenAt_44 rfl ?_
    refine st_aload_n (pc := 46) dX10_seenAt_46 rfl ?_
    refine bd_getr (pc := 47) hq dX10_seenAt_47 fl_10_63_10 rfl (fun v12 hq => ?_)
    refine st_ldcS (pc := 50) (i := 1) (tx := "wcs") dX10_seenAt_50 (by decide) ?_
    obtain ⟨⟨hbq13, hkq13⟩, hq⟩ := mh_oi hq
    obtain ⟨q13, e13, hq⟩ := mh_ob hq
    refine st_invV (pc := 52) (ci := 5) (vs := [.ref v12, .ref 1000000002]) (rest := []) (st2 := [.int q13.1]) dX10_seenAt_52 okX5_toldBy (by decide) hkq13 hbq13 wd_535 wd_536 wd_537 pdX5_toldBy rfl rfl rfl rfl (Nat.le_trans (by decide) hd) (Nat.le_of_ble_eq_true rfl) (T_X5_toldBy (Nat.le_refl _) e13) rfl ?_
    refine st_iconst (pc := 55) (v := (1 : Int32)) dX10_seenAt_55 rfl ?_
    refine st_sipush (pc := 56) (v := (9999 : Int32)) dX10_seenAt_56 (by decide) ?_
    obtain ⟨q14, e14, hq⟩ := mh_ob hq
    refine st_invSN (pc := 59) (Y := mX11_held) (vs := [.int q13.1, .int (1 : Int32), .int (9999 : Int32)]) (rest := []) (st2 := [.int q14.1]) dX10_seenAt_59 okX11_held wn_658 wd_659 pdX11_held rfl rfl rfl rfl (Nat.le_trans (by decide) hd) (Nat.le_of_ble_eq_true rfl) (T_X11_held (Nat.le_refl _) e14) rfl ?_
    exact bd_iret (pc := 62) hq dX10_seenAt_62 rfl
