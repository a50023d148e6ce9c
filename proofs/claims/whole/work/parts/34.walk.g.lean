-- HoleWaterModel.runs(I)I
theorem dX12_runs_0 : decode cX12_runs 0 = .ok (.aload_n 0, 1) := by decide +kernel
theorem dX12_runs_1 : decode cX12_runs 1 = .ok (.getfield 318, 3) := by decide +kernel
theorem dX12_runs_4 : decode cX12_runs 4 = .ok (.iconst 3, 1) := by decide +kernel
theorem dX12_runs_5 : decode cX12_runs 5 = .ok (.if_icmp .ne 20, 3) := by decide +kernel
theorem dX12_runs_8 : decode cX12_runs 8 = .ok (.aload_n 0, 1) := by decide +kernel
theorem dX12_runs_9 : decode cX12_runs 9 = .ok (.bipush 40, 2) := by decide +kernel
theorem dX12_runs_11 : decode cX12_runs 11 = .ok (.invokevirtual 309, 3) := by decide +kernel
theorem dX12_runs_14 : decode cX12_runs 14 = .ok (.aload_n 0, 1) := by decide +kernel
theorem dX12_runs_15 : decode cX12_runs 15 = .ok (.iload_n 1, 1) := by decide +kernel
theorem dX12_runs_16 : decode cX12_runs 16 = .ok (.aload_n 0, 1) := by decide +kernel
theorem dX12_runs_17 : decode cX12_runs 17 = .ok (.getfield 321, 3) := by decide +kernel
theorem dX12_runs_20 : decode cX12_runs 20 = .ok (.iadd, 1) := by decide +kernel
theorem dX12_runs_21 : decode cX12_runs 21 = .ok (.invokevirtual 324, 3) := by decide +kernel
theorem dX12_runs_24 : decode cX12_runs 24 = .ok (.ireturn, 1) := by decide +kernel
theorem dX12_runs_25 : decode cX12_runs 25 = .ok (.aload_n 0, 1) := by decide +kernel
theorem dX12_runs_26 : decode cX12_runs 26 = .ok (.getfield 318, 3) := by decide +kernel
theorem dX12_runs_29 : decode cX12_runs 29 = .ok (.iconst 1, 1) := by decide +kernel
theorem dX12_runs_30 : decode cX12_runs 30 = .ok (.if_icmp .ne 11, 3) := by decide +kernel
theorem dX12_runs_33 : decode cX12_runs 33 = .ok (.aload_n 0, 1) := by decide +kernel
theorem dX12_runs_34 : decode cX12_runs 34 = .ok (.iload_n 1, 1) := by decide +kernel
theorem dX12_runs_35 : decode cX12_runs 35 = .ok (.invokevirtual 324, 3) := by decide +kernel
theorem dX12_runs_38 : decode cX12_runs 38 = .ok (.goto 8, 3) := by decide +kernel
theorem dX12_runs_46 : decode cX12_runs 46 = .ok (.ireturn, 1) := by decide +kernel
theorem dX12_runs_41 : decode cX12_runs 41 = .ok (.aload_n 0, 1) := by decide +kernel
theorem dX12_runs_42 : decode cX12_runs 42 = .ok (.iload_n 1, 1) := by decide +kernel
theorem dX12_runs_43 : decode cX12_runs 43 = .ok (.invokevirtual 315, 3) := by decide +kernel
def D_X12_runs (N : Nat) (h : mh_H) (l0 : Nat) (l1 : Int32) : Option (Int32 × mh_H) :=
  (gI h 12 l0 23).bind fun v1 =>
  if v1 = (3 : Int32) then (kO h 12 l0 <|
  (D_X12_begins N h l0 (40 : Int32)).bind fun q2 =>
  (gI q2 12 l0 25).bind fun v3 =>
  kO q2 12 l0 <|
  (D_X12_openRuns N q2 l0 (l1 + v3)).bind fun q4 =>
  some (q4.1, q4.2))
  else ((gI h 12 l0 23).bind fun v2 =>
  if v2 = (1 : Int32) then (kO h 12 l0 <|
  (D_X12_openRuns N h l0 l1).bind fun q3 =>
  some (q3.1, q3.2))
  else (kO h 12 l0 <|
  (D_X12_plainRuns N h l0 l1).bind fun q3 =>
  some (q3.1, q3.2)))
set_option maxHeartbeats 4000000 in
set_option maxRecDepth 100000 in
theorem T_X12_runs {P : mh_E → Prop} {N d : Nat} (hd : 4 ≤ d) {z : (Int32 × mh_H)} {h : mh_H} {l0 : Nat} {l1 : Int32} (hq : D_X12_runs N h l0 l1 = some z) : mh_go P d mX12_runs 0 [some (.ref l0), some (.int l1)] [] h (some (.int z.1)) z.2 := by
  unfold D_X12_runs at hq
  refine st_aload_n (pc := 0) dX12_runs_0 rfl ?_
  refine bd_geti (pc := 1) hq dX12_runs_1 fl_12_318_12 rfl (fun v1 hq => ?_)
  refine st_iconst (pc := 4) (v := (3 : Int32)) dX12_runs_4 rfl ?_
  refine bd_icmp_ne (pc := 5) (tgt := 25) hq dX12_runs_5 (by decide) (fun _ hq => ?_) (fun _ hq => ?_)
  ·
    refine st_aload_n (pc := 8) dX12_runs_8 rfl ?_
    refine st_bipush (pc := 9) (v := (40 : Int32)) dX12_runs_9 (by decide) ?_
    obtain ⟨⟨hbq2, hkq2⟩, hq⟩ := mh_oi hq
    obtain ⟨q2, e2, hq⟩ := mh_ob hq
    refine st_invV (pc := 11) (ci := 12) (vs := [.int (40 : Int32)]) (rest := []) (st2 := []) dX12_runs_11 okX12_begins (by decide) hkq2 hbq2 wd_1649 wd_1651 wp_85 pdX12_begins rfl rfl rfl rfl (Nat.le_trans (by decide) hd) (Nat.le_of_ble_eq_true rfl) (T_X12_begins (Nat.le_refl _) e2) rfl ?_
    refine st_aload_n (pc := 14) dX12_runs_14 rfl ?_
    refine st_iload_n (pc := 15) dX12_runs_15 rfl ?_
    refine st_aload_n (pc := 16) dX12_runs_16 rfl ?_
    refine bd_geti (pc := 17) hq dX12_runs_17 fl_12_321_12 rfl (fun v3 hq => ?_)
    refine st_iadd (pc := 20) dX12_runs_20 ?_
    obtain ⟨⟨hbq4, hkq4⟩, hq⟩ := mh_oi hq
    obtain ⟨q4, e4, hq⟩ := mh_ob hq
    refine st_invV (pc := 21) (ci := 12) (vs := [.int (l1 + v3)]) (rest := []) (st2 := [.int q4.1]) dX12_runs_21 okX12_openRuns (by decide) hkq4 hbq4 wd_1653 wd_1655 wp_86 pdX12_openRuns rfl rfl rfl rfl (Nat.le_trans (by decide) hd) (Nat.le_of_ble_eq_true rfl) (T_X12_openRuns (Nat.le_refl _) e4) rfl ?_
    exact bd_iret (pc := 24) hq dX12_runs_24 rfl
  ·
    refine st_aload_n (pc := 25) dX12_runs_25 rfl ?_
    refine bd_geti (pc := 26) hq dX12_runs_26 fl_12_318_12 rfl (fun v2 hq => ?_)
    refine st_iconst (pc := 29) (v := (1 : Int32)) dX12_runs_29 rfl ?_
    refine bd_icmp_ne (pc := 30) (tgt := 41) hq dX12_runs_30 (by decide) (fun _ hq => ?_) (fun _ hq => ?_)
    ·
      refine st_aload_n (pc := 33) dX12_runs_33 rfl ?_
      refine st_iload_n (pc := 34) dX12_runs_34 rfl ?_
      obtain ⟨⟨hbq3, hkq3⟩, hq⟩ := mh_oi hq
      obtain ⟨q3, e3, hq⟩ := mh_ob hq
      refine st_invV (pc := 35) (ci := 12) (vs := [.int l1]) (rest := []) (st2 := [.int q3.1]) dX12_runs_35 okX12_openRuns (by decide) hkq3 hbq3 wd_1653 wd_1655 wp_86 pdX12_openRuns rfl rfl rfl rfl (Nat.le_trans (by decide) hd) (Nat.le_of_ble_eq_true rfl) (T_X12_openRuns (Nat.le_refl _) e3) rfl ?_
      refine st_goto (pc := 38) (tgt := 46) dX12_runs_38 (by decide) ?_
      exact bd_iret (pc := 46) hq dX12_runs_46 rfl
    ·
      refine st_aload_n (pc := 41) dX12_runs_41 rfl ?_
      refine st_iload_n (pc := 42) dX12_runs_42 rfl ?_
      obtain ⟨⟨hbq3, hkq3⟩, hq⟩ := mh_oi hq
      obtain ⟨q3, e3, hq⟩ := mh_ob hq
      refine st_invV (pc := 43) (ci := 12) (vs := [.int l1]) (rest := []) (st2 := [.int q3.1]) dX12_runs_43 okX12_plainRuns (by decide) hkq3 hbq3 wd_1657 wd_1659 wp_87 pdX12_plainRuns rfl rfl rfl rfl (Nat.le_trans (by decide) hd) (Nat.le_of_ble_eq_true rfl) (T_X12_plainRuns (Nat.le_refl _) e3) rfl ?_
      exact bd_iret (pc := 46) hq dX12_runs_46 rfl
-- HoleWaterModel.plainHolds(I)I
theorem dX12_plainHolds_0 : decode cX12_plainHolds 0 = .ok (.aload_n 0, 1) := by decide +kernel
theorem dX12_plainHolds_1 : decode cX12_plainHolds 1 = .ok (.bipush 11, 2) := by decide +kernel
theorem dX12_plainHolds_3 : decode cX12_plainHolds 3 = .ok (.invokevirtual 309, 3) := by decide +kernel
theorem dX12_plainHolds_6 : decode cX12_plainHolds 6 = .ok (.aload_n 0, 1) := by decide +kernel
theorem dX12_plainHolds_7 : decode cX12_plainHolds 7 = .ok (.iload_n 1, 1) := by decide +kernel
theorem dX12_plainHolds_8 : decode cX12_plainHolds 8 = .ok (.invokevirtual 327, 3) := by decide +kernel
theorem dX12_plainHolds_11 : decode cX12_plainHolds 11 = .ok (.iconst 2, 1) := by decide +kernel
theorem dX12_plainHolds_12 : decode cX12_plainHolds 12 = .ok (.imul, 1) := by decide +kernel
theorem dX12_plainHolds_13 : decode cX12_plainHolds 13 = .ok (.ireturn, 1) := by decide +kernel
def D_X12_plainHolds (N : Nat) (h : mh_H) (l0 : Nat) (l1 : Int32) : Option (Int32 × mh_H) :=
  kO h 12 l0 <|
  (D_X12_begins N h l0 (11 : Int32)).bind fun q1 =>
  kO q1 12 l0 <|
  (D_X12_runs N q1 l0 l1).bind fun q2 =>
  some (q2.1 * (2 : Int32), q2.2)
set_option maxHeartbeats 4000000 in
set_option maxRecDepth 100000 in
theorem T_X12_plainHolds {P : mh_E → Prop} {N d : Nat} (hd : 5 ≤ d) {z : (Int32 × mh_H)} {h : mh_H} {l0 : Nat} {l1 : Int32} (hq : D_X12_plainHolds N h l0 l1 = some z) : mh_go P d mX12_plainHolds 0 [some (.ref l0), some (.int l1)] [] h (some (.int z.1)) z.2 := by
  unfold D_X12_plainHolds at hq
  refine st_aload_n (pc := 0) dX12_plainHolds_0 rfl ?_
  refine st_bipush (pc := 1) (v := (11 : Int32)) dX12_plainHolds_1 (by decide) ?_
  obtain ⟨⟨hbq1, hkq1⟩, hq⟩ := mh_oi hq
  obtain ⟨q1, e1, hq⟩ := mh_ob hq
  refine st_invV (pc := 3) (ci := 12) (vs := [.int (11 : Int32)]) (rest := []) (st2 := []) dX12_plainHolds_3 okX12_begins (by decide) hkq1 hbq1 wd_1649 wd_1651 wp_85 pdX12_begins rfl rfl rfl rfl (Nat.le_trans (by decide) hd) (Nat.le_of_ble_eq_true rfl) (T_X12_begins (Nat.le_refl _) e1) rfl ?_
  refine st_aload_n (pc := 6) dX12_plainHolds_6 rfl ?_
  refine st_iload_n (pc := 7) dX12_plainHolds_7 rfl ?_
  obtain ⟨⟨hbq2, hkq2⟩, hq⟩ := mh_oi hq
  obtain ⟨q2, e2, hq⟩ := mh_ob hq
  refine st_invV (pc := 8) (ci := 12) (vs := [.int l1]) (rest := []) (st2 := [.int q2.1]) dX12_plainHolds_8 okX12_runs (by decide) hkq2 hbq2 wd_1645 wd_1647 wp_84 pdX12_runs rfl rfl rfl rfl (Nat.le_trans (by decide) hd) (Nat.le_of_ble_eq_true rfl) (T_X12_runs (Nat.le_refl _) e2) rfl ?_
  refine st_iconst (pc := 11) (v := (2 : Int32)) dX12_plainHolds_11 rfl ?_
  refine st_imul (pc := 12) dX12_plainHolds_12 ?_
  exact bd_iret (pc := 13) hq dX12_plainHolds_13 rfl
-- HoleWaterModel.holds(I)I
theorem dX12_holds_0 : decode cX12_holds 0 = .ok (.aload_n 0, 1) := by decide +kernel
theorem dX12_holds_1 : decode cX12_holds 1 = .ok (.getfield 318, 3) := by decide +kernel
theorem dX12_holds_4 : decode cX12_holds 4 = .ok (.iconst 2, 1) := by decide +kernel
theorem dX12_holds_5 : decode cX12_holds 5 = .ok (.invokestatic 105, 3) := by decide +kernel
theorem dX12_holds_8 : decode cX12_holds 8 = .ok (.ifCond .eq 20, 3) := by decide +kernel
theorem dX12_holds_28 : decode cX12_holds 28 = .ok (.aload_n 0, 1) := by decide +kernel
theorem dX12_holds_29 : decode cX12_holds 29 = .ok (.getfield 318, 3) := by decide +kernel
theorem dX12_holds_32 : decode cX12_holds 32 = .ok (.iconst 4, 1) := by decide +kernel
theorem dX12_holds_33 : decode cX12_holds 33 = .ok (.if_icmp .ne 20, 3) := by decide +kernel
theorem dX12_holds_36 : decode cX12_holds 36 = .ok (.aload_n 0, 1) := by decide +kernel
theorem dX12_holds_37 : decode cX12_holds 37 = .ok (.bipush 50, 2) := by decide +kernel
theorem dX12_holds_39 : decode cX12_holds 39 = .ok (.invokevirtual 309, 3) := by decide +kernel
theorem dX12_holds_42 : decode cX12_holds 42 = .ok (.aload_n 0, 1) := by decide +kernel
theorem dX12_holds_43 : decode cX12_holds 43 = .ok (.iload_n 1, 1) := by decide +kernel
theorem dX12_holds_44 : decode cX12_holds 44 = .ok (.invokevirtual 330, 3) := by decide +kernel
theorem dX12_holds_47 : decode cX12_holds 47 = .ok (.aload_n 0, 1) := by decide +kernel
theorem dX12_holds_48 : decode cX12_holds 48 = .ok (.getfield 321, 3) := by decide +kernel
theorem dX12_holds_51 : decode cX12_holds 51 = .ok (.iadd, 1) := by decide +kernel
theorem dX12_holds_52 : decode cX12_holds 52 = .ok (.ireturn, 1) := by decide +kernel
theorem dX12_holds_53 : decode cX12_holds 53 = .ok (.aload_n 0, 1) := by decide +kernel
theorem dX12_holds_54 : decode cX12_holds 54 = .ok (.iload_n 1, 1) := by decide +kernel
theorem dX12_holds_55 : decode cX12_holds 55 = .ok (.invokevirtual 330, 3) := by decide +kernel
theorem dX12_holds_58 : decode cX12_holds 58 = .ok (.ireturn, 1) := by decide +kernel
theorem dX12_holds_11 : decode cX12_holds 11 = .ok (.aload_n 0, 1) := by decide +kernel
theorem dX12_holds_12 : decode cX12_holds 12 = .ok (.bipush 30, 2) := by decide +kernel
theorem dX12_holds_14 : decode cX12_holds 14 = .ok (.invokevirtual 309, 3) := by decide +kernel
theorem dX12_holds_17 : decode cX12_holds 17 = .ok (.aload_n 0, 1) := by decide +kernel
theorem dX12_holds_18 : decode cX12_holds 18 = .ok (.iload_n 1, 1) := by decide +kernel
theorem dX12_holds_19 : decode cX12_holds 19 = .ok (.invokevirtual 330, 3) := by decide +kernel
theorem dX12_holds_22 : decode cX12_holds 22 = .ok (.aload_n 0, 1) := by decide +kernel
theorem dX12_holds_23 : decode cX12_holds 23 = .ok (.getfield 321, 3) := by decide +kernel
theorem dX12_holds_26 : decode cX12_holds 26 = .ok (.ixor, 1) := by decide +kernel
theorem dX12_holds_27 : decode cX12_holds 27 = .ok (.ireturn, 1) := by decide +kernel
def D_X12_holds (N : Nat) (h : mh_H) (l0 : Nat) (l1 : Int32) : Option (Int32 × mh_H) :=
  (gI h 12 l0 23).bind fun v1 =>
  (D_X12_isUnder N h v1 (2 : Int32)).bind fun q2 =>
  if q2.1 = 0 then ((gI q2.2 12 l0 23).bind fun v3 =>
  if v3 = (4 : Int32) then (kO q2.2 12 l0 <|
  (D_X12_begins N q2.2 l0 (50 : Int32)).bind fun q4 =>
  kO q4 12 l0 <|
  (D_X12_plainHolds N q4 l0 l1).bind fun q5 =>
  (gI q5.2 12 l0 25).bind fun v6 =>
  some (q5.1 + v6, q5.2))
  else (kO q2.2 12 l0 <|
  (D_X12_plainHolds N q2.2 l0 l1).bind fun q4 =>
  some (q4.1, q4.2)))
  else (kO q2.2 12 l0 <|
  (D_X12_begins N q2.2 l0 (30 : Int32)).bind fun q3 =>
  kO q3 12 l0 <|
  (D_X12_plainHolds N q3 l0 l1).bind fun q4 =>
  (gI q4.2 12 l0 25).bind fun v5 =>
  some (q4.1 ^^^ v5, q4.2))
set_option maxHeartbeats 4000000 in
set_option maxRecDepth 100000 in
theorem T_X12_holds {P : mh_E → Prop} {N d : Nat} (hd : 6 ≤ d) {z : (Int32 × mh_H)} {h : mh_H} {l0 : Nat} {l1 : Int32} (hq : D_X12_holds N h l0 l1 = some z) : mh_go P d mX12_holds 0 [some (.ref l0), some (.int l1)] [] h (some (.int z.1)) z.2 := by
  unfold D_X12_holds at hq
  refine st_aload_n (pc := 0) dX12_holds_0 rfl ?_
  refine bd_geti (pc := 1) hq dX12_holds_1 fl_12_318_12 rfl (fun v1 hq => ?_)
  refine st_iconst (pc := 4) (v := (2 : Int32)) dX12_holds_4 rfl ?_
  obtain ⟨q2, e2, hq⟩ := mh_ob hq
  refine st_invS (pc := 5) (Y := mX12_isUnder) (vs := [.int v1, .int (2 : Int32)]) (rest := []) (st2 := [.int q2.1]) dX12_holds_5 okX12_isUnder wd_1320 wd_1321 pdX12_isUnder rfl rfl rfl rfl (Nat.le_trans (by decide) hd) (Nat.le_of_ble_eq_true rfl) (T_X12_isUnder (Nat.le_refl _) e2) rfl ?_
  refine bd_if_eq (pc := 8) (tgt := 28) hq dX12_holds_8 (by decide) (fun _ hq => ?_) (fun _ hq => ?_)
  ·
    refine st_aload_n (pc := 28) dX12_holds_28 rfl ?_
    refine bd_geti (pc := 29) hq dX12_holds_29 fl_12_318_12 rfl (fun v3 hq => ?_)
    refine st_iconst (pc := 32) (v := (4 : Int32)) dX12_holds_32 rfl ?_
    refine bd_icmp_ne (pc := 33) (tgt := 53) hq dX12_holds_33 (by decide) (fun _ hq => ?_) (fun _ hq => ?_)
    ·
      refine st_aload_n (pc := 36) dX12_holds_36 rfl ?_
      refine st_bipush (pc := 37) (v := (50 : Int32)) dX12_holds_37 (by decide) ?_
      obtain ⟨⟨hbq4, hkq4⟩, hq⟩ := mh_oi hq
      obtain ⟨q4, e4, hq⟩ := mh_ob hq
      refine st_invV (pc := 39) (ci := 12) (vs := [.int (50 : Int32)]) (rest := []) (st2 := []) dX12_holds_39 okX12_begins (by decide) hkq4 hbq4 wd_1649 wd_1651 wp_85 pdX12_begins rfl rfl rfl rfl (Nat.le_trans (by decide) hd) (Nat.le_of_ble_eq_true rfl) (T_X12_begins (Nat.le_refl _) e4) rfl ?_
      refine st_aload_n (pc := 42) dX12_holds_42 rfl ?_
      refine st_iload_n (pc := 43) dX12_holds_43 rfl ?_
      obtain ⟨⟨hbq5, hkq5⟩, hq⟩ := mh_oi hq
      obtain ⟨q5, e5, hq⟩ := mh_ob hq
      refine st_invV (pc := 44) (ci := 12) (vs := [.int l1]) (rest := []) (st2 := [.int q5.1]) dX12_holds_44 okX12_plainHolds (by decide) hkq5 hbq5 wd_1665 wd_1667 wp_89 pdX12_plainHolds rfl rfl rfl rfl (Nat.le_trans (by decide) hd) (Nat.le_of_ble_eq_true rfl) (T_X12_plainHolds (Nat.le_refl _) e5) rfl ?_
      refine st_aload_n (pc := 47) dX12_holds_47 rfl ?_
      refine bd_geti (pc := 48) hq dX12_holds_48 fl_12_321_12 rfl (fun v6 hq => ?_)
      refine st_iadd (pc := 51) dX12_holds_51 ?_
      exact bd_iret (pc := 52) hq dX12_holds_52 rfl
    ·
      refine st_aload_n (pc := 53) dX12_holds_53 rfl ?_
      refine st_iload_n (pc := 54) dX12_holds_54 rfl ?_
      obtain ⟨⟨hbq4, hkq4⟩, hq⟩ := mh_oi hq
      obtain ⟨q4, e4, hq⟩ := mh_ob hq
      refine st_invV (pc := 55) (ci := 12) (vs := [.int l1]) (rest := []) (st2 := [.int q4.1]) dX12_holds_55 okX12_plainHolds (by decide) hkq4 hbq4 wd_1665 wd_1667 wp_89 pdX12_plainHolds rfl rfl rfl rfl (Nat.le_trans (by decide) hd) (Nat.le_of_ble_eq_true rfl) (T_X12_plainHolds (Nat.le_refl _) e4) rfl ?_
      exact bd_iret (pc := 58) hq dX12_holds_58 rfl
  ·
    refine st_aload_n (pc := 11) dX12_holds_11 rfl ?_
    refine st_bipush (pc := 12) (v := (30 : Int32)) dX12_holds_12 (by decide) ?_
    obtain ⟨⟨hbq3, hkq3⟩, hq⟩ := mh_oi hq
    obtain ⟨q3, e3, hq⟩ := mh_ob hq
    refine st_invV (pc := 14) (ci := 12) (vs := [.int (30 : Int32)]) (rest := []) (st2 := []) dX12_holds_14 okX12_begins (by decide) hkq3 hbq3 wd_1649 wd_1651 wp_85 pdX12_begins rfl rfl rfl rfl (Nat.le_trans (by decide) hd) (Nat.le_of_ble_eq_true rfl) (T_X12_begins (Nat.le_refl _) e3) rfl ?_
    refine st_aload_n (pc := 17) dX12_holds_17 rfl ?_
    refine st_iload_n (pc := 18) dX12_holds_18 rfl ?_
    obtain ⟨⟨hbq4, hkq4⟩, hq⟩ := mh_oi hq
    obtain ⟨q4, e4, hq⟩ := mh_ob hq
    refine st_invV (pc := 19) (ci := 12) (vs := [.int l1]) (rest := []) (st2 := [.int q4.1]) dX12_holds_19 okX12_plainHolds (by decide) hkq4 hbq4 wd_1665 wd_1667 wp_89 pdX12_plainHolds rfl rfl rfl rfl (Nat.le_trans (by decide) hd) (Nat.le_of_ble_eq_true rfl) (T_X12_plainHolds (Nat.le_refl _) e4) rfl ?_
    refine st_aload_n (pc := 22) dX12_holds_22 rfl ?_
    refine bd_geti (pc := 23) hq dX12_holds_23 fl_12_321_12 rfl (fun v5 hq => ?_)
    refine st_ixor (pc := 26) dX12_holds_26 ?_
    exact bd_iret (pc := 27) hq dX12_holds_27 rfl
-- HoleWaterModel.plainSpills(I)I
theorem dX12_plainSpills_0 : decode cX12_plainSpills 0 = .ok (.aload_n 0, 1) := by decide +kernel
theorem dX12_plainSpills_1 : decode cX12_plainSpills 1 = .ok (.bipush 12, 2) := by decide +kernel
theorem dX12_plainSpills_3 : decode cX12_plainSpills 3 = .ok (.invokevirtual 309, 3) := by decide +kernel
theorem dX12_plainSpills_6 : decode cX12_plainSpills 6 = .ok (.aload_n 0, 1) := by decide +kernel
theorem dX12_plainSpills_7 : decode cX12_plainSpills 7 = .ok (.iload_n 1, 1) := by decide +kernel
theorem dX12_plainSpills_8 : decode cX12_plainSpills 8 = .ok (.invokevirtual 333, 3) := by decide +kernel
theorem dX12_plainSpills_11 : decode cX12_plainSpills 11 = .ok (.aload_n 0, 1) := by decide +kernel
theorem dX12_plainSpills_12 : decode cX12_plainSpills 12 = .ok (.getfield 321, 3) := by decide +kernel
theorem dX12_plainSpills_15 : decode cX12_plainSpills 15 = .ok (.isub, 1) := by decide +kernel
theorem dX12_plainSpills_16 : decode cX12_plainSpills 16 = .ok (.ireturn, 1) := by decide +kernel
def D_X12_plainSpills (N : Nat) (h : mh_H) (l0 : Nat) (l1 : Int32) : Option (Int32 × mh_H) :=
  kO h 12 l0 <|
  (D_X12_begins N h l0 (12 : Int32)).bind fun q1 =>
  kO q1 12 l0 <|
  (D_X12_holds N q1 l0 l1).bind fun q2 =>
  (gI q2.2 12 l0 25).bind fun v3 =>
  some (q2.1 - v3, q2.2)
set_option maxHeartbeats 4000000 in
set_option maxRecDepth 100000 in
theorem T_X12_plainSpills {P : mh_E → Prop} {N d : Nat} (hd : 7 ≤ d) {z : (Int32 × mh_H)} {h : mh_H} {l0 : Nat} {l1 : Int32} (hq : D_X12_plainSpills N h l0 l1 = some z) : mh_go P d mX12_plainSpills 0 [some (.ref l0), some (.int l1)] [] h (some (.int z.1)) z.2 := by
  unfold D_X12_plainSpills at hq
  refine st_aload_n (pc := 0) dX12_plainSpills_0 rfl ?_
  refine st_bipush (pc := 1) (v := (12 : Int32)) dX12_plainSpills_1 (by decide) ?_
  obtain ⟨⟨hbq1, hkq1⟩, hq⟩ := mh_oi hq
  obtain ⟨q1, e1, hq⟩ := mh_ob hq
  refine st_invV (pc := 3) (ci := 12) (vs := [.int (12 : Int32)]) (rest := []) (st2 := []) dX12_plainSpills_3 okX12_begins (by decide) hkq1 hbq1 wd_1649 wd_1651 wp_85 pdX12_begins rfl rfl rfl rfl (Nat.le_trans (by decide) hd) (Nat.le_of_ble_eq_true rfl) (T_X12_begins (Nat.le_refl _) e1) rfl ?_
  refine st_aload_n (pc := 6) dX12_plainSpills_6 rfl ?_
  refine st_iload_n (pc := 7) dX12_plainSpills_7 rfl ?_
  obtain ⟨⟨hbq2, hkq2⟩, hq⟩ := mh_oi hq
  obtain ⟨q2, e2, hq⟩ := mh_ob hq
  refine st_invV (pc := 8) (ci := 12) (vs := [.int l1]) (rest := []) (st2 := [.int q2.1]) dX12_plainSpills_8 okX12_holds (by decide) hkq2 hbq2 wd_1661 wd_1663 wp_88 pdX12_holds rfl rfl rfl rfl (Nat.le_trans (by decide) hd) (Nat.le_of_ble_eq_true rfl) (T_X12_holds (Nat.le_refl _) e2) rfl ?_
  refine st_aload_n (pc := 11) dX12_plainSpills_11 rfl ?_
  refine bd_geti (pc := 12) hq dX12_plainSpills_12 fl_12_321_12 rfl (fun v3 hq => ?_)
  refine st_isub (pc := 15) dX12_plainSpills_15 ?_
  exact bd_iret (pc := 16) hq dX12_plainSpills_16 rfl
-- HoleWaterModel.spills(I)I
theorem dX12_spills__0 : decode cX12_spills_ 0 = .ok (.aload_n 0, 1) := by decide +kernel
theorem dX12_spills__1 : decode cX12_spills_ 1 = .ok (.getfield 318, 3) := by decide +kernel
theorem dX12_spills__4 : decode cX12_spills_ 4 = .ok (.iconst 3, 1) := by decide +kernel
theorem dX12_spills__5 : decode cX12_spills_ 5 = .ok (.if_icmp .ne 17, 3) := by decide +kernel
theorem dX12_spills__8 : decode cX12_spills_ 8 = .ok (.aload_n 0, 1) := by decide +kernel
theorem dX12_spills__9 : decode cX12_spills_ 9 = .ok (.bipush 41, 2) := by decide +kernel
theorem dX12_spills__11 : decode cX12_spills_ 11 = .ok (.invokevirtual 309, 3) := by decide +kernel
theorem dX12_spills__14 : decode cX12_spills_ 14 = .ok (.aload_n 0, 1) := by decide +kernel
theorem dX12_spills__15 : decode cX12_spills_ 15 = .ok (.iload_n 1, 1) := by decide +kernel
theorem dX12_spills__16 : decode cX12_spills_ 16 = .ok (.invokevirtual 335, 3) := by decide +kernel
theorem dX12_spills__19 : decode cX12_spills_ 19 = .ok (.iconst 3, 1) := by decide +kernel
theorem dX12_spills__20 : decode cX12_spills_ 20 = .ok (.imul, 1) := by decide +kernel
theorem dX12_spills__21 : decode cX12_spills_ 21 = .ok (.ireturn, 1) := by decide +kernel
theorem dX12_spills__22 : decode cX12_spills_ 22 = .ok (.aload_n 0, 1) := by decide +kernel
theorem dX12_spills__23 : decode cX12_spills_ 23 = .ok (.getfield 318, 3) := by decide +kernel
theorem dX12_spills__26 : decode cX12_spills_ 26 = .ok (.iconst 4, 1) := by decide +kernel
theorem dX12_spills__27 : decode cX12_spills_ 27 = .ok (.if_icmp .ne 17, 3) := by decide +kernel
theorem dX12_spills__30 : decode cX12_spills_ 30 = .ok (.aload_n 0, 1) := by decide +kernel
theorem dX12_spills__31 : decode cX12_spills_ 31 = .ok (.bipush 51, 2) := by decide +kernel
theorem dX12_spills__33 : decode cX12_spills_ 33 = .ok (.invokevirtual 309, 3) := by decide +kernel
theorem dX12_spills__36 : decode cX12_spills_ 36 = .ok (.iconst 0, 1) := by decide +kernel
theorem dX12_spills__37 : decode cX12_spills_ 37 = .ok (.aload_n 0, 1) := by decide +kernel
theorem dX12_spills__38 : decode cX12_spills_ 38 = .ok (.iload_n 1, 1) := by decide +kernel
theorem dX12_spills__39 : decode cX12_spills_ 39 = .ok (.invokevirtual 335, 3) := by decide +kernel
theorem dX12_spills__42 : decode cX12_spills_ 42 = .ok (.isub, 1) := by decide +kernel
theorem dX12_spills__43 : decode cX12_spills_ 43 = .ok (.ireturn, 1) := by decide +kernel
theorem dX12_spills__44 : decode cX12_spills_ 44 = .ok (.aload_n 0, 1) := by decide +kernel
theorem dX12_spills__45 : decode cX12_spills_ 45 = .ok (.iload_n 1, 1) := by decide +kernel
theorem dX12_spills__46 : decode cX12_spills_ 46 = .ok (.invokevirtual 335, 3) := by decide +kernel
theorem dX12_spills__49 : decode cX12_spills_ 49 = .ok (.ireturn, 1) := by decide +kernel
def D_X12_spills_ (N : Nat) (h : mh_H) (l0 : Nat) (l1 : Int32) : Option (Int32 × mh_H) :=
  (gI h 12 l0 23).bind fun v1 =>
  if v1 = (3 : Int32) then (kO h 12 l0 <|
  (D_X12_begins N h l0 (41 : Int32)).bind fun q2 =>
  kO q2 12 l0 <|
  (D_X12_plainSpills N q2 l0 l1).bind fun q3 =>
  some (q3.1 * (3 : Int32), q3.2))
  else ((gI h 12 l0 23).bind fun v2 =>
  if v2 = (4 : Int32) then (kO h 12 l0 <|
  (D_X12_begins N h l0 (51 : Int32)).bind fun q3 =>
  kO q3 12 l0 <|
  (D_X12_plainSpills N q3 l0 l1).bind fun q4 =>
  some ((0 : Int32) - q4.1, q4.2))
  else (kO h 12 l0 <|
  (D_X12_plainSpills N h l0 l1).bind fun q3 =>
  some (q3.1, q3.2)))
set_option maxHeartbeats 4000000 in
set_option maxRecDepth 100000 in
theorem T_X12_spills_ {P : mh_E → Prop} {N d : Nat} (hd : 8 ≤ d) {z : (Int32 × mh_H)} {h : mh_H} {l0 : Nat} {l1 : Int32} (hq : D_X12_spills_ N h l0 l1 = some z) : mh_go P d mX12_spills_ 0 [some (.ref l0), some (.int l1)] [] h (some (.int z.1)) z.2 := by
  unfold D_X12_spills_ at hq
  refine st_aload_n (pc := 0) dX12_spills__0 rfl ?_
  refine bd_geti (pc := 1) hq dX12_spills__1 fl_12_318_12 rfl (fun v1 hq => ?_)
  refine st_iconst (pc := 4) (v := (3 : Int32)) dX12_spills__4 rfl ?_
  refine bd_icmp_ne (pc := 5) (tgt := 22) hq dX12_spills__5 (by decide) (fun _ hq => ?_) (fun _ hq => ?_)
  ·
    refine st_aload_n (pc := 8) dX12_spills__8 rfl ?_
    refine st_bipush (pc := 9) (v := (41 : Int32)) dX12_spills__9 (by decide) ?_
    obtain ⟨⟨hbq2, hkq2⟩, hq⟩ := mh_oi hq
    obtain ⟨q2, e2, hq⟩ := mh_ob hq
    refine st_invV (pc := 11) (ci := 12) (vs := [.int (41 : Int32)]) (rest := []) (st2 := []) dX12_spills__11 okX12_begins (by decide) hkq2 hbq2 wd_1649 wd_1651 wp_85 pdX12_begins rfl rfl rfl rfl (Nat.le_trans (by decide) hd) (Nat.le_of_ble_eq_true rfl) (T_X12_begins (Nat.le_refl _) e2) rfl ?_
    refine st_aload_n (pc := 14) dX12_spills__14 rfl ?_
    refine st_iload_n (pc := 15) dX12_spills__15 rfl ?_
    obtain ⟨⟨hbq3, hkq3⟩, hq⟩ := mh_oi hq
    obtain ⟨q3, e3, hq⟩ := mh_ob hq
    refine st_invV (pc := 16) (ci := 12) (vs := [.int l1]) (rest := []) (st2 := [.int q3.1]) dX12_spills__16 okX12_plainSpills (by decide) hkq3 hbq3 wd_1673 wd_1675 wp_91 pdX12_plainSpills rfl rfl rfl rfl (Nat.le_trans (by decide) hd) (Nat.le_of_ble_eq_true rfl) (T_X12_plainSpills (Nat.le_refl _) e3) rfl ?_
    refine st_iconst (pc := 19) (v := (3 : Int32)) dX12_spills__19 rfl ?_
    refine st_imul (pc := 20) dX12_spills__20 ?_
    exact bd_iret (pc := 21) hq dX12_spills__21 rfl
  ·
    refine st_aload_n (pc := 22) dX12_spills__22 rfl ?_
    refine bd_geti (pc := 23) hq dX12_spills__23 fl_12_318_12 rfl (fun v2 hq => ?_)
    refine st_iconst (pc := 26) (v := (4 : Int32)) dX12_spills__26 rfl ?_
    refine bd_icmp_ne (pc := 27) (tgt := 44) hq dX12_spills__27 (by decide) (fun _ hq => ?_) (fun _ hq => ?_)
    ·
      refine st_aload_n (pc := 30) dX12_spills__30 rfl ?_
      refine st_bipush (pc := 31) (v := (51 : Int32)) dX12_spills__31 (by decide) ?_
      obtain ⟨⟨hbq3, hkq3⟩, hq⟩ := mh_oi hq
      obtain ⟨q3, e3, hq⟩ := mh_ob hq
      refine st_invV (pc := 33) (ci := 12) (vs := [.int (51 : Int32)]) (rest := []) (st2 := []) dX12_spills__33 okX12_begins (by decide) hkq3 hbq3 wd_1649 wd_1651 wp_85 pdX12_begins rfl rfl rfl rfl (Nat.le_trans (by decide) hd) (Nat.le_of_ble_eq_true rfl) (T_X12_begins (Nat.le_refl _) e3) rfl ?_
      refine st_iconst (pc := 36) (v := (0 : Int32)) dX12_spills__36 rfl ?_
      refine st_aload_n (pc := 37) dX12_spills__37 rfl ?_
      refine st_iload_n (pc := 38) dX12_spills__38 rfl ?_
      obtain ⟨⟨hbq4, hkq4⟩, hq⟩ := mh_oi hq
      obtain ⟨q4, e4, hq⟩ := mh_ob hq
      refine st_invV (pc := 39) (ci := 12) (vs := [.int l1]) (rest := [.int (0 : Int32)]) (st2 := [.int q4.1, .int (0 : Int32)]) dX12_spills__39 okX12_plainSpills (by decide) hkq4 hbq4 wd_1673 wd_1675 wp_91 pdX12_plainSpills rfl rfl rfl rfl (Nat.le_trans (by decide) hd) (Nat.le_of_ble_eq_true rfl) (T_X12_plainSpills (Nat.le_refl _) e4) rfl ?_
      refine st_isub (pc := 42) dX12_spills__42 ?_
      exact bd_iret (pc := 43) hq dX12_spills__43 rfl
    ·
      refine st_aload_n (pc := 44) dX12_spills__44 rfl ?_
      refine st_iload_n (pc := 45) dX12_spills__45 rfl ?_
      obtain ⟨⟨hbq3, hkq3⟩, hq⟩ := mh_oi hq
      obtain ⟨q3, e3, hq⟩ := mh_ob hq
      refine st_invV (pc := 46) (ci := 12) (vs := [.int l1]) (rest := []) (st2 := [.int q3.1]) dX12_spills__46 okX12_plainSpills (by decide) hkq3 hbq3 wd_1673 wd_1675 wp_91 pdX12_plainSpills rfl rfl rfl rfl (Nat.le_trans (by decide) hd) (Nat.le_of_ble_eq_true rfl) (T_X12_plainSpills (Nat.le_refl _) e3) rfl ?_
      exact bd_iret (pc := 49) hq dX12_spills__49 rfl
-- HoleWaterModel.plainTells(I)I
theorem dX12_plainTells_26 : decode cX12_plainTells 26 = .ok (.putfield 338, 3) := by decide +kernel
theorem dX12_plainTells_29 : decode cX12_plainTells 29 = .ok (.iload_n 2, 1) := by decide +kernel
theorem dX12_plainTells_30 : decode cX12_plainTells 30 = .ok (.ifCond .ne 7, 3) := by decide +kernel
theorem dX12_plainTells_33 : decode cX12_plainTells 33 = .ok (.iconst 0, 1) := by decide +kernel
theorem dX12_plainTells_34 : decode cX12_plainTells 34 = .ok (.goto 6, 3) := by decide +kernel
theorem dX12_plainTells_40 : decode cX12_plainTells 40 = .ok (.ireturn, 1) := by decide +kernel
theorem dX12_plainTells_37 : decode cX12_plainTells 37 = .ok (.iload_n 1, 1) := by decide +kernel
theorem dX12_plainTells_38 : decode cX12_plainTells 38 = .ok (.iload_n 2, 1) := by decide +kernel
theorem dX12_plainTells_39 : decode cX12_plainTells 39 = .ok (.idiv, 1) := by decide +kernel
theorem dX12_plainTells_0 : decode cX12_plainTells 0 = .ok (.aload_n 0, 1) := by decide +kernel
theorem dX12_plainTells_1 : decode cX12_plainTells 1 = .ok (.bipush 13, 2) := by decide +kernel
theorem dX12_plainTells_3 : decode cX12_plainTells 3 = .ok (.invokevirtual 309, 3) := by decide +kernel
theorem dX12_plainTells_6 : decode cX12_plainTells 6 = .ok (.aload_n 0, 1) := by decide +kernel
theorem dX12_plainTells_7 : decode cX12_plainTells 7 = .ok (.getfield 321, 3) := by decide +kernel
theorem dX12_plainTells_10 : decode cX12_plainTells 10 = .ok (.aload_n 0, 1) := by decide +kernel
theorem dX12_plainTells_11 : decode cX12_plainTells 11 = .ok (.getfield 312, 3) := by decide +kernel
theorem dX12_plainTells_14 : decode cX12_plainTells 14 = .ok (.isub, 1) := by decide +kernel
theorem dX12_plainTells_15 : decode cX12_plainTells 15 = .ok (.istore_n 2, 1) := by decide +kernel
theorem dX12_plainTells_16 : decode cX12_plainTells 16 = .ok (.aload_n 0, 1) := by decide +kernel
theorem dX12_plainTells_17 : decode cX12_plainTells 17 = .ok (.iload_n 2, 1) := by decide +kernel
theorem dX12_plainTells_18 : decode cX12_plainTells 18 = .ok (.ifCond .ne 7, 3) := by decide +kernel
theorem dX12_plainTells_21 : decode cX12_plainTells 21 = .ok (.iconst 1, 1) := by decide +kernel
theorem dX12_plainTells_22 : decode cX12_plainTells 22 = .ok (.goto 4, 3) := by decide +kernel
theorem dX12_plainTells_25 : decode cX12_plainTells 25 = .ok (.iconst 0, 1) := by decide +kernel
def D_X12_plainTells_26 (N : Nat) (h : mh_H) (l1 : Int32) (l2 : Int32) (s0 : Nat) (s1 : Int32) : Option (Int32 × mh_H) :=
  (pB h 12 s0 26 s1).bind fun h1 =>
  if l2 = 0 then (some ((0 : Int32), h1))
  else (dN l2 <|
  some (l1 / l2, h1))
set_option maxHeartbeats 4000000 in
set_option maxRecDepth 100000 in
theorem T_X12_plainTells_26 {P : mh_E → Prop} {N d : Nat} (hd : 2 ≤ d) {z : (Int32 × mh_H)} {h : mh_H} {l1 : Int32} {l2 : Int32} {s0 : Nat} {s1 : Int32} (hq : D_X12_plainTells_26 N h l1 l2 s0 s1 = some z) : mh_go P d mX12_plainTells 26 [none, some (.int l1), some (.int l2)] [.int s1, .ref s0] h (some (.int z.1)) z.2 := by
  unfold D_X12_plainTells_26 at hq
  refine bd_putb (pc := 26) hq dX12_plainTells_26 fl_12_338_12 (Or.inl rfl) rfl (fun h1 hq => ?_)
  refine st_iload_n (pc := 29) dX12_plainTells_29 rfl ?_
  refine bd_if_ne (pc := 30) (tgt := 37) hq dX12_plainTells_30 (by decide) (fun _ hq => ?_) (fun _ hq => ?_)
  ·
    refine st_iconst (pc := 33) (v := (0 : Int32)) dX12_plainTells_33 rfl ?_
    refine st_goto (pc := 34) (tgt := 40) dX12_plainTells_34 (by decide) ?_
    exact bd_iret (pc := 40) hq dX12_plainTells_40 rfl
  ·
    refine st_iload_n (pc := 37) dX12_plainTells_37 rfl ?_
    refine st_iload_n (pc := 38) dX12_plainTells_38 rfl ?_
    refine bd_idiv (pc := 39) hq dX12_plainTells_39 (fun hq => ?_)
    exact bd_iret (pc := 40) hq dX12_plainTells_40 rfl
def D_X12_plainTells (N : Nat) (h : mh_H) (l0 : Nat) (l1 : Int32) : Option (Int32 × mh_H) :=
  kO h 12 l0 <|
  (D_X12_begins N h l0 (13 : Int32)).bind fun q1 =>
  (gI q1 12 l0 25).bind fun v2 =>
  (gI q1 12 l0 24).bind fun v3 =>
  if (v2 - v3) = 0 then (D_X12_plainTells_26 N q1 l1 (v2 - v3) l0 (1 : Int32))
  else (D_X12_plainTells_26 N q1 l1 (v2 - v3) l0 (0 : Int32))
set_option maxHeartbeats 4000000 in
set_option maxRecDepth 100000 in
theorem T_X12_plainTells {P : mh_E → Prop} {N d : Nat} (hd : 2 ≤ d) {z : (Int32 × mh_H)} {h : mh_H} {l0 : Nat} {l1 : Int32} (hq : D_X12_plainTells N h l0 l1 = some z) : mh_go P d mX12_plainTells 0 [some (.ref l0), some (.int l1), none] [] h (some (.int z.1)) z.2 := by
  unfold D_X12_plainTells at hq
  refine st_aload_n (pc := 0) dX12_plainTells_0 rfl ?_
  refine st_bipush (pc := 1) (v := (13 : Int32)) dX12_plainTells_1 (by decide) ?_
  obtain ⟨⟨hbq1, hkq1⟩, hq⟩ := mh_oi hq
  obtain ⟨q1, e1, hq⟩ := mh_ob hq
  refine st_invV (pc := 3) (ci := 12) (vs := [.int (13 : Int32)]) (rest := []) (st2 := []) dX12_plainTells_3 okX12_begins (by decide) hkq1 hbq1 wd_1649 wd_1651 wp_85 pdX12_begins rfl rfl rfl rfl (Nat.le_trans (by decide) hd) (Nat.le_of_ble_eq_true rfl) (T_X12_begins (Nat.le_refl _) e1) rfl ?_
  refine st_aload_n (pc := 6) dX12_plainTells_6 rfl ?_
  refine bd_geti (pc := 7) hq dX12_plainTells_7 fl_12_321_12 rfl (fun v2 hq => ?_)
  refine st_aload_n (pc := 10) dX12_plainTells_10 rfl ?_
  refine bd_geti (pc := 11) hq dX12_plainTells_11 fl_12_312_12 rfl (fun v3 hq => ?_)
  refine st_isub (pc := 14) dX12_plainTells_14 ?_
  refine st_istore_n (pc := 15) (lv' := [some (.ref l0), some (.int l1), some (.int (v2 - v3))]) dX12_plainTells_15 rfl (by decide) rfl ?_
  refine st_aload_n (pc := 16) dX12_plainTells_16 rfl ?_
  refine st_iload_n (pc := 17) dX12_plainTells_17 rfl ?_
  refine bd_if_ne (pc := 18) (tgt := 25) hq dX12_plainTells_18 (by decide) (fun _ hq => ?_) (fun _ hq => ?_)
  ·
    refine st_iconst (pc := 21) (v := (1 : Int32)) dX12_plainTells_21 rfl ?_
    refine st_goto (pc := 22) (tgt := 26) dX12_plainTells_22 (by decide) ?_
    refine st_lesS (lv' := [none, some (.int l1), some (.int (v2 - v3))]) ⟨Or.inl rfl, Or.inr rfl, Or.inr rfl, trivial⟩ ?_
    exact T_X12_plainTells_26 hd hq
  ·
    refine st_iconst (pc := 25) (v := (0 : Int32)) dX12_plainTells_25 rfl ?_
    refine st_lesS (lv' := [none, some (.int l1), some (.int (v2 - v3))]) ⟨Or.inl rfl, Or.inr rfl, Or.inr rfl, trivial⟩ ?_
    exact T_X12_plainTells_26 hd hq
-- HoleWaterModel.tells(I)I
theorem dX12_tells_0 : decode cX12_tells 0 = .ok (.aload_n 0, 1) := by decide +kernel
theorem dX12_tells_1 : decode cX12_tells 1 = .ok (.getfield 318, 3) := by decide +kernel
theorem dX12_tells_4 : decode cX12_tells 4 = .ok (.iconst 1, 1) := by decide +kernel
theorem dX12_tells_5 : decode cX12_tells 5 = .ok (.invokestatic 105, 3) := by decide +kernel
theorem dX12_tells_8 : decode cX12_tells 8 = .ok (.ifCond .eq 34, 3) := by decide +kernel
theorem dX12_tells_42 : decode cX12_tells 42 = .ok (.aload_n 0, 1) := by decide +kernel
theorem dX12_tells_43 : decode cX12_tells 43 = .ok (.getfield 318, 3) := by decide +kernel
theorem dX12_tells_46 : decode cX12_tells 46 = .ok (.iconst 5, 1) := by decide +kernel
theorem dX12_tells_47 : decode cX12_tells 47 = .ok (.if_icmp .ne 23, 3) := by decide +kernel
theorem dX12_tells_50 : decode cX12_tells 50 = .ok (.aload_n 0, 1) := by decide +kernel
theorem dX12_tells_51 : decode cX12_tells 51 = .ok (.bipush 60, 2) := by decide +kernel
theorem dX12_tells_53 : decode cX12_tells 53 = .ok (.invokevirtual 309, 3) := by decide +kernel
theorem dX12_tells_56 : decode cX12_tells 56 = .ok (.aload_n 0, 1) := by decide +kernel
theorem dX12_tells_57 : decode cX12_tells 57 = .ok (.iload_n 1, 1) := by decide +kernel
theorem dX12_tells_58 : decode cX12_tells 58 = .ok (.invokevirtual 327, 3) := by decide +kernel
theorem dX12_tells_61 : decode cX12_tells 61 = .ok (.istore_n 2, 1) := by decide +kernel
theorem dX12_tells_62 : decode cX12_tells 62 = .ok (.iload_n 2, 1) := by decide +kernel
theorem dX12_tells_63 : decode cX12_tells 63 = .ok (.aload_n 0, 1) := by decide +kernel
theorem dX12_tells_64 : decode cX12_tells 64 = .ok (.iload_n 1, 1) := by decide +kernel
theorem dX12_tells_65 : decode cX12_tells 65 = .ok (.invokevirtual 341, 3) := by decide +kernel
theorem dX12_tells_68 : decode cX12_tells 68 = .ok (.isub, 1) := by decide +kernel
theorem dX12_tells_69 : decode cX12_tells 69 = .ok (.ireturn, 1) := by decide +kernel
theorem dX12_tells_70 : decode cX12_tells 70 = .ok (.aload_n 0, 1) := by decide +kernel
theorem dX12_tells_71 : decode cX12_tells 71 = .ok (.iload_n 1, 1) := by decide +kernel
theorem dX12_tells_72 : decode cX12_tells 72 = .ok (.invokevirtual 341, 3) := by decide +kernel
theorem dX12_tells_75 : decode cX12_tells 75 = .ok (.ireturn, 1) := by decide +kernel
theorem dX12_tells_11 : decode cX12_tells 11 = .ok (.aload_n 0, 1) := by decide +kernel
theorem dX12_tells_12 : decode cX12_tells 12 = .ok (.bipush 21, 2) := by decide +kernel
theorem dX12_tells_14 : decode cX12_tells 14 = .ok (.invokevirtual 309, 3) := by decide +kernel
theorem dX12_tells_17 : decode cX12_tells 17 = .ok (.aload_n 0, 1) := by decide +kernel
theorem dX12_tells_18 : decode cX12_tells 18 = .ok (.iload_n 1, 1) := by decide +kernel
theorem dX12_tells_19 : decode cX12_tells 19 = .ok (.invokevirtual 341, 3) := by decide +kernel
theorem dX12_tells_22 : decode cX12_tells 22 = .ok (.istore_n 2, 1) := by decide +kernel
theorem dX12_tells_23 : decode cX12_tells 23 = .ok (.aload_n 0, 1) := by decide +kernel
theorem dX12_tells_24 : decode cX12_tells 24 = .ok (.getfield 338, 3) := by decide +kernel
theorem dX12_tells_27 : decode cX12_tells 27 = .ok (.ifCond .eq 7, 3) := by decide +kernel
theorem dX12_tells_34 : decode cX12_tells 34 = .ok (.iload_n 2, 1) := by decide +kernel
theorem dX12_tells_35 : decode cX12_tells 35 = .ok (.aload_n 0, 1) := by decide +kernel
theorem dX12_tells_36 : decode cX12_tells 36 = .ok (.iconst 1, 1) := by decide +kernel
theorem dX12_tells_37 : decode cX12_tells 37 = .ok (.invokevirtual 327, 3) := by decide +kernel
theorem dX12_tells_40 : decode cX12_tells 40 = .ok (.iadd, 1) := by decide +kernel
theorem dX12_tells_41 : decode cX12_tells 41 = .ok (.ireturn, 1) := by decide +kernel
theorem dX12_tells_30 : decode cX12_tells 30 = .ok (.iconst 0, 1) := by decide +kernel
theorem dX12_tells_31 : decode cX12_tells 31 = .ok (.goto 10, 3) := by decide +kernel
def D_X12_tells (N : Nat) (h : mh_H) (l0 : Nat) (l1 : Int32) : Option (Int32 × mh_H) :=
  (gI h 12 l0 23).bind fun v1 =>
  (D_X12_isUnder N h v1 (1 : Int32)).bind fun q2 =>
  if q2.1 = 0 then ((gI q2.2 12 l0 23).bind fun v3 =>
  if v3 = (5 : Int32) then (kO q2.2 12 l0 <|
  (D_X12_begins N q2.2 l0 (60 : Int32)).bind fun q4 =>
  kO q4 12 l0 <|
  (D_X12_runs N q4 l0 l1).bind fun q5 =>
  kO q5.2 12 l0 <|
  (D_X12_plainTells N q5.2 l0 l1).bind fun q6 =>
  some (q5.1 - q6.1, q6.2))
  else (kO q2.2 12 l0 <|
  (D_X12_plainTells N q2.2 l0 l1).bind fun q4 =>
  some (q4.1, q4.2)))
  else (kO q2.2 12 l0 <|
  (D_X12_begins N q2.2 l0 (21 : Int32)).bind fun q3 =>
  kO q3 12 l0 <|
  (D_X12_plainTells N q3 l0 l1).bind fun q4 =>
  (gI q4.2 12 l0 26).bind fun v5 =>
  if v5 = 0 then (kO q4.2 12 l0 <|
  (D_X12_runs N q4.2 l0 (1 : Int32)).bind fun q6 =>
  some (q4.1 + q6.1, q6.2))
  else (some ((0 : Int32), q4.2)))
set_option maxHeartbeats 4000000 in
set_option maxRecDepth 100000 in
theorem T_X12_tells {P : mh_E → Prop} {N d : Nat} (hd : 5 ≤ d) {z : (Int32 × mh_H)} {h : mh_H} {l0 : Nat} {l1 : Int32} (hq : D_X12_tells N h l0 l1 = some z) : mh_go P d mX12_tells 0 [some (.ref l0), some (.int l1), none] [] h (some (.int z.1)) z.2 := by
  unfold D_X12_tells at hq
  refine st_aload_n (pc := 0) dX12_tells_0 rfl ?_
  refine bd_geti (pc := 1) hq dX12_tells_1 fl_12_318_12 rfl (fun v1 hq => ?_)
  refine st_iconst (pc := 4) (v := (1 : Int32)) dX12_tells_4 rfl ?_
  obtain ⟨q2, e2, hq⟩ := mh_ob hq
  refine st_invS (pc := 5) (Y := mX12_isUnder) (vs := [.int v1, .int (1 : Int32)]) (rest := []) (st2 := [.int q2.1]) dX12_tells_5 okX12_isUnder wd_1320 wd_1321 pdX12_isUnder rfl rfl rfl rfl (Nat.le_trans (by decide) hd) (Nat.le_of_ble_eq_true rfl) (T_X12_isUnder (Nat.le_refl _) e2) rfl ?_
  refine bd_if_eq (pc := 8) (tgt := 42) hq dX12_tells_8 (by decide) (fun _ hq => ?_) (fun _ hq => ?_)
  ·
    refine st_aload_n (pc := 42) dX12_tells_42 rfl ?_
    refine bd_geti (pc := 43) hq dX12_tells_43 fl_12_318_12 rfl (fun v3 hq => ?_)
    refine st_iconst (pc := 46) (v := (5 : Int32)) dX12_tells_46 rfl ?_
    refine bd_icmp_ne (pc := 47) (tgt := 70) hq dX12_tells_47 (by decide) (fun _ hq => ?_) (fun _ hq => ?_)
    ·
      refine st_aload_n (pc := 50) dX12_tells_50 rfl ?_
      refine st_bipush (pc := 51) (v := (60 : Int32)) dX12_tells_51 (by decide) ?_
      obtain ⟨⟨hbq4, hkq4⟩, hq⟩ := mh_oi hq
      obtain ⟨q4, e4, hq⟩ := mh_ob hq
      refine st_invV (pc := 53) (ci := 12) (vs := [.int (60 : Int32)]) (rest := []) (st2 := []) dX12_tells_53 okX12_begins (by decide) hkq4 hbq4 wd_1649 wd_1651 wp_85 pdX12_begins rfl rfl rfl rfl (Nat.le_trans (by decide) hd) (Nat.le_of_ble_eq_true rfl) (T_X12_begins (Nat.le_refl _) e4) rfl ?_
      refine st_aload_n (pc := 56) dX12_tells_56 rfl ?_
      refine st_iload_n (pc := 57) dX12_tells_57 rfl ?_
      obtain ⟨⟨hbq5, hkq5⟩, hq⟩ := mh_oi hq
      obtain ⟨q5, e5, hq⟩ := mh_ob hq
      refine st_invV (pc := 58) (ci := 12) (vs := [.int l1]) (rest := []) (st2 := [.int q5.1]) dX12_tells_58 okX12_runs (by decide) hkq5 hbq5 wd_1645 wd_1647 wp_84 pdX12_runs rfl rfl rfl rfl (Nat.le_trans (by decide) hd) (Nat.le_of_ble_eq_true rfl) (T_X12_runs (Nat.le_refl _) e5) rfl ?_
      refine st_istore_n (pc := 61) (lv' := [some (.ref l0), some (.int l1), some (.int q5.1)]) dX12_tells_61 rfl (by decide) rfl ?_
      refine st_iload_n (pc := 62) dX12_tells_62 rfl ?_
      refine st_aload_n (pc := 63) dX12_tells_63 rfl ?_
      refine st_iload_n (pc := 64) dX12_tells_64 rfl ?_
      obtain ⟨⟨hbq6, hkq6⟩, hq⟩ := mh_oi hq
      obtain ⟨q6, e6, hq⟩ := mh_ob hq
      refine st_invV (pc := 65) (ci := 12) (vs := [.int l1]) (rest := [.int q5.1]) (st2 := [.int q6.1, .int q5.1]) dX12_tells_65 okX12_plainTells (by decide) hkq6 hbq6 wd_1681 wd_1683 wp_93 pdX12_plainTells rfl rfl rfl rfl (Nat.le_trans (by decide) hd) (Nat.le_of_ble_eq_true rfl) (T_X12_plainTells (Nat.le_refl _) e6) rfl ?_
      refine st_isub (pc := 68) dX12_tells_68 ?_
      exact bd_iret (pc := 69) hq dX12_tells_69 rfl
    ·
      refine st_aload_n (pc := 70) dX12_tells_70 rfl ?_
      refine st_iload_n (pc := 71) dX12_tells_71 rfl ?_
      obtain ⟨⟨hbq4, hkq4⟩, hq⟩ := mh_oi hq
      obtain ⟨q4, e4, hq⟩ := mh_ob hq
      refine st_invV (pc := 72) (ci := 12) (vs := [.int l1]) (rest := []) (st2 := [.int q4.1]) dX12_tells_72 okX12_plainTells (by decide) hkq4 hbq4 wd_1681 wd_1683 wp_93 pdX12_plainTells rfl rfl rfl rfl (Nat.le_trans (by decide) hd) (Nat.le_of_ble_eq_true rfl) (T_X12_plainTells (Nat.le_refl _) e4) rfl ?_
      exact bd_iret (pc := 75) hq dX12_tells_75 rfl
  ·
    refine st_aload_n (pc := 11) dX12_tells_11 rfl ?_
    refine st_bipush (pc := 12) (v := (21 : Int32)) dX12_tells_12 (by decide) ?_
    obtain ⟨⟨hbq3, hkq3⟩, hq⟩ := mh_oi hq
    obtain ⟨q3, e3, hq⟩ := mh_ob hq
    refine st_invV (pc := 14) (ci := 12) (vs := [.int (21 : Int32)]) (rest := []) (st2 := []) dX12_tells_14 okX12_begins (by decide) hkq3 hbq3 wd_1649 wd_1651 wp_85 pdX12_begins rfl rfl rfl rfl (Nat.le_trans (by decide) hd) (Nat.le_of_ble_eq_true rfl) (T_X12_begins (Nat.le_refl _) e3) rfl ?_
    refine st_aload_n (pc := 17) dX12_tells_17 rfl ?_
    refine st_iload_n (pc := 18) dX12_tells_18 rfl ?_
    obtain ⟨⟨hbq4, hkq4⟩, hq⟩ := mh_oi hq
    obtain ⟨q4, e4, hq⟩ := mh_ob hq
    refine st_invV (pc := 19) (ci := 12) (vs := [.int l1]) (rest := []) (st2 := [.int q4.1]) dX12_tells_19 okX12_plainTells (by decide) hkq4 hbq4 wd_1681 wd_1683 wp_93 pdX12_plainTells rfl rfl rfl rfl (Nat.le_trans (by decide) hd) (Nat.le_of_ble_eq_true rfl) (T_X12_plainTells (Nat.le_refl _) e4) rfl ?_
    refine st_istore_n (pc := 22) (lv' := [some (.ref l0), some (.int l1), some (.int q4.1)]) dX12_tells_22 rfl (by decide) rfl ?_
    refine st_aload_n (pc := 23) dX12_tells_23 rfl ?_
    refine bd_geti (pc := 24) hq dX12_tells_24 fl_12_338_12 rfl (fun v5 hq => ?_)
    refine bd_if_eq (pc := 27) (tgt := 34) hq dX12_tells_27 (by decide) (fun _ hq => ?_) (fun _ hq => ?_)
    ·
      refine st_iload_n (pc := 34) dX12_tells_34 rfl ?_
      refine st_aload_n (pc := 35) dX12_tells_35 rfl ?_
      refine st_iconst (pc := 36) (v := (1 : Int32)) dX12_tells_36 rfl ?_
      obtain ⟨⟨hbq6, hkq6⟩, hq⟩ := mh_oi hq
      obtain ⟨q6, e6, hq⟩ := mh_ob hq
      refine st_invV (pc := 37) (ci := 12) (vs := [.int (1 : Int32)]) (rest := [.int q4.1]) (st2 := [.int q6.1, .int q4.1]) dX12_tells_37 okX12_runs (by decide) hkq6 hbq6 wd_1645 wd_1647 wp_84 pdX12_runs rfl rfl rfl rfl (Nat.le_trans (by decide) hd) (Nat.le_of_ble_eq_true rfl) (T_X12_runs (Nat.le_refl _) e6) rfl ?_
      refine st_iadd (pc := 40) dX12_tells_40 ?_
      exact bd_iret (pc := 41) hq dX12_tells_41 rfl
    ·
      refine st_iconst (pc := 30) (v := (0 : Int32)) dX12_tells_30 rfl ?_
      refine st_goto (pc := 31) (tgt := 41) dX12_tells_31 (by decide) ?_
      exact bd_iret (pc := 41) hq dX12_tells_41 rfl
-- HoleWaterModel.voice(III)I
theorem dX12_voice_20 : decode cX12_voice 20 = .ok (.aload_n 0, 1) := by decide +kernel
theorem dX12_voice_21 : decode cX12_voice 21 = .ok (.iconst 1, 1) := by decide +kernel
theorem dX12_voice_22 : decode cX12_voice 22 = .ok (.invokevirtual 80, 3) := by decide +kernel
theorem dX12_voice_25 : decode cX12_voice 25 = .ok (.ireturn, 1) := by decide +kernel
theorem dX12_voice_122 : decode cX12_voice 122 = .ok (.istore 4, 2) := by decide +kernel
theorem dX12_voice_124 : decode cX12_voice 124 = .ok (.aload_n 0, 1) := by decide +kernel
theorem dX12_voice_125 : decode cX12_voice 125 = .ok (.getfield 338, 3) := by decide +kernel
theorem dX12_voice_128 : decode cX12_voice 128 = .ok (.ifCond .eq 12, 3) := by decide +kernel
theorem dX12_voice_140 : decode cX12_voice 140 = .ok (.iload 4, 2) := by decide +kernel
theorem dX12_voice_142 : decode cX12_voice 142 = .ok (.ireturn, 1) := by decide +kernel
theorem dX12_voice_131 : decode cX12_voice 131 = .ok (.aload_n 0, 1) := by decide +kernel
theorem dX12_voice_132 : decode cX12_voice 132 = .ok (.bipush 6, 2) := by decide +kernel
theorem dX12_voice_134 : decode cX12_voice 134 = .ok (.invokevirtual 80, 3) := by decide +kernel
theorem dX12_voice_137 : decode cX12_voice 137 = .ok (.goto 5, 3) := by decide +kernel
theorem dX12_voice_0 : decode cX12_voice 0 = .ok (.aload_n 0, 1) := by decide +kernel
theorem dX12_voice_1 : decode cX12_voice 1 = .ok (.iload_n 1, 1) := by decide +kernel
theorem dX12_voice_2 : decode cX12_voice 2 = .ok (.invokevirtual 109, 3) := by decide +kernel
theorem dX12_voice_5 : decode cX12_voice 5 = .ok (.ifCond .eq 15, 3) := by decide +kernel
theorem dX12_voice_8 : decode cX12_voice 8 = .ok (.iload_n 2, 1) := by decide +kernel
theorem dX12_voice_9 : decode cX12_voice 9 = .ok (.i2l, 1) := by decide +kernel
theorem dX12_voice_10 : decode cX12_voice 10 = .ok (.lconst 0, 1) := by decide +kernel
theorem dX12_voice_11 : decode cX12_voice 11 = .ok (.ldc2_w 69, 3) := by decide +kernel
theorem dX12_voice_14 : decode cX12_voice 14 = .ok (.invokestatic 65, 3) := by decide +kernel
theorem dX12_voice_17 : decode cX12_voice 17 = .ok (.ifCond .ne 9, 3) := by decide +kernel
theorem dX12_voice_26 : decode cX12_voice 26 = .ok (.aload_n 0, 1) := by decide +kernel
theorem dX12_voice_27 : decode cX12_voice 27 = .ok (.iconst 0, 1) := by decide +kernel
theorem dX12_voice_28 : decode cX12_voice 28 = .ok (.putfield 306, 3) := by decide +kernel
theorem dX12_voice_31 : decode cX12_voice 31 = .ok (.aload_n 0, 1) := by decide +kernel
theorem dX12_voice_32 : decode cX12_voice 32 = .ok (.iconst 0, 1) := by decide +kernel
theorem dX12_voice_33 : decode cX12_voice 33 = .ok (.putfield 338, 3) := by decide +kernel
theorem dX12_voice_36 : decode cX12_voice 36 = .ok (.aload_n 0, 1) := by decide +kernel
theorem dX12_voice_37 : decode cX12_voice 37 = .ok (.aload_n 0, 1) := by decide +kernel
theorem dX12_voice_38 : decode cX12_voice 38 = .ok (.getfield 9, 3) := by decide +kernel
theorem dX12_voice_41 : decode cX12_voice 41 = .ok (.iload_n 1, 1) := by decide +kernel
theorem dX12_voice_42 : decode cX12_voice 42 = .ok (.invokestatic 99, 3) := by decide +kernel
theorem dX12_voice_45 : decode cX12_voice 45 = .ok (.iaload, 1) := by decide +kernel
theorem dX12_voice_46 : decode cX12_voice 46 = .ok (.putfield 318, 3) := by decide +kernel
theorem dX12_voice_49 : decode cX12_voice 49 = .ok (.aload_n 0, 1) := by decide +kernel
theorem dX12_voice_50 : decode cX12_voice 50 = .ok (.aload_n 0, 1) := by decide +kernel
theorem dX12_voice_51 : decode cX12_voice 51 = .ok (.getfield 9, 3) := by decide +kernel
theorem dX12_voice_54 : decode cX12_voice 54 = .ok (.iload_n 1, 1) := by decide +kernel
theorem dX12_voice_55 : decode cX12_voice 55 = .ok (.invokestatic 99, 3) := by decide +kernel
theorem dX12_voice_58 : decode cX12_voice 58 = .ok (.iconst 3, 1) := by decide +kernel
theorem dX12_voice_59 : decode cX12_voice 59 = .ok (.iadd, 1) := by decide +kernel
theorem dX12_voice_60 : decode cX12_voice 60 = .ok (.iaload, 1) := by decide +kernel
theorem dX12_voice_61 : decode cX12_voice 61 = .ok (.putfield 312, 3) := by decide +kernel
theorem dX12_voice_64 : decode cX12_voice 64 = .ok (.aload_n 0, 1) := by decide +kernel
theorem dX12_voice_65 : decode cX12_voice 65 = .ok (.aload_n 0, 1) := by decide +kernel
theorem dX12_voice_66 : decode cX12_voice 66 = .ok (.getfield 9, 3) := by decide +kernel
theorem dX12_voice_69 : decode cX12_voice 69 = .ok (.iload_n 1, 1) := by decide +kernel
theorem dX12_voice_70 : decode cX12_voice 70 = .ok (.invokestatic 99, 3) := by decide +kernel
theorem dX12_voice_73 : decode cX12_voice 73 = .ok (.iconst 4, 1) := by decide +kernel
theorem dX12_voice_74 : decode cX12_voice 74 = .ok (.iadd, 1) := by decide +kernel
theorem dX12_voice_75 : decode cX12_voice 75 = .ok (.iaload, 1) := by decide +kernel
theorem dX12_voice_76 : decode cX12_voice 76 = .ok (.putfield 321, 3) := by decide +kernel
theorem dX12_voice_79 : decode cX12_voice 79 = .ok (.iload_n 2, 1) := by decide +kernel
theorem dX12_voice_80 : decode cX12_voice 80 = .ok (.ifCond .ne 11, 3) := by decide +kernel
theorem dX12_voice_83 : decode cX12_voice 83 = .ok (.aload_n 0, 1) := by decide +kernel
theorem dX12_voice_84 : decode cX12_voice 84 = .ok (.iload_n 3, 1) := by decide +kernel
theorem dX12_voice_85 : decode cX12_voice 85 = .ok (.invokevirtual 327, 3) := by decide +kernel
theorem dX12_voice_88 : decode cX12_voice 88 = .ok (.goto 34, 3) := by decide +kernel
theorem dX12_voice_91 : decode cX12_voice 91 = .ok (.iload_n 2, 1) := by decide +kernel
theorem dX12_voice_92 : decode cX12_voice 92 = .ok (.iconst 1, 1) := by decide +kernel
theorem dX12_voice_93 : decode cX12_voice 93 = .ok (.if_icmp .ne 11, 3) := by decide +kernel
theorem dX12_voice_96 : decode cX12_voice 96 = .ok (.aload_n 0, 1) := by decide +kernel
theorem dX12_voice_97 : decode cX12_voice 97 = .ok (.iload_n 3, 1) := by decide +kernel
theorem dX12_voice_98 : decode cX12_voice 98 = .ok (.invokevirtual 333, 3) := by decide +kernel
theorem dX12_voice_101 : decode cX12_voice 101 = .ok (.goto 21, 3) := by decide +kernel
theorem dX12_voice_104 : decode cX12_voice 104 = .ok (.iload_n 2, 1) := by decide +kernel
theorem dX12_voice_105 : decode cX12_voice 105 = .ok (.iconst 2, 1) := by decide +kernel
theorem dX12_voice_106 : decode cX12_voice 106 = .ok (.if_icmp .ne 11, 3) := by decide +kernel
theorem dX12_voice_109 : decode cX12_voice 109 = .ok (.aload_n 0, 1) := by decide +kernel
theorem dX12_voice_110 : decode cX12_voice 110 = .ok (.iload_n 3, 1) := by decide +kernel
theorem dX12_voice_111 : decode cX12_voice 111 = .ok (.invokevirtual 344, 3) := by decide +kernel
theorem dX12_voice_114 : decode cX12_voice 114 = .ok (.goto 8, 3) := by decide +kernel
theorem dX12_voice_117 : decode cX12_voice 117 = .ok (.aload_n 0, 1) := by decide +kernel
theorem dX12_voice_118 : decode cX12_voice 118 = .ok (.iload_n 3, 1) := by decide +kernel
theorem dX12_voice_119 : decode cX12_voice 119 = .ok (.invokevirtual 346, 3) := by decide +kernel
def D_X12_voice_20 (N : Nat) (h : mh_H) (l0 : Nat) : Option (Int32 × mh_H) :=
  kO h 12 l0 <|
  (D_X12_error N h l0 (1 : Int32)).bind fun q1 =>
  some (q1.1, q1.2)
set_option maxHeartbeats 4000000 in
set_option maxRecDepth 100000 in
theorem T_X12_voice_20 {P : mh_E → Prop} {N d : Nat} (hd : 9 ≤ d) {z : (Int32 × mh_H)} {h : mh_H} {l0 : Nat} (hq : D_X12_voice_20 N h l0 = some z) : mh_go P d mX12_voice 20 [some (.ref l0), none, none, none, none] [] h (some (.int z.1)) z.2 := by
  unfold D_X12_voice_20 at hq
  refine st_aload_n (pc := 20) dX12_voice_20 rfl ?_
  refine st_iconst (pc := 21) (v := (1 : Int32)) dX12_voice_21 rfl ?_
  obtain ⟨⟨hbq1, hkq1⟩, hq⟩ := mh_oi hq
  obtain ⟨q1, e1, hq⟩ := mh_ob hq
  refine st_invV (pc := 22) (ci := 12) (vs := [.int (1 : Int32)]) (rest := []) (st2 := [.int q1.1]) dX12_voice_22 okX12_error (by decide) hkq1 hbq1 wd_1274 wd_1276 wp_37 pdX12_error rfl rfl rfl rfl (Nat.le_trans (by decide) hd) (Nat.le_of_ble_eq_true rfl) (T_X12_error (Nat.le_refl _) e1) rfl ?_
  exact bd_iret (pc := 25) hq dX12_voice_25 rfl
def D_X12_voice_122 (N : Nat) (h : mh_H) (l0 : Nat) (s0 : Int32) : Option (Int32 × mh_H) :=
  (gI h 12 l0 26).bind fun v1 =>
  if v1 = 0 then (some (s0, h))
  else (kO h 12 l0 <|
  (D_X12_error N h l0 (6 : Int32)).bind fun q2 =>
  some (q2.1, q2.2))
set_option maxHeartbeats 4000000 in
set_option maxRecDepth 100000 in
theorem T_X12_voice_122 {P : mh_E → Prop} {N d : Nat} (hd : 9 ≤ d) {z : (Int32 × mh_H)} {h : mh_H} {l0 : Nat} {s0 : Int32} (hq : D_X12_voice_122 N h l0 s0 = some z) : mh_go P d mX12_voice 122 [some (.ref l0), none, none, none, none] [.int s0] h (some (.int z.1)) z.2 := by
  unfold D_X12_voice_122 at hq
  refine st_istore (pc := 122) (lv' := [some (.ref l0), none, none, none, some (.int s0)]) dX12_voice_122 rfl (by decide) rfl ?_
  refine st_aload_n (pc := 124) dX12_voice_124 rfl ?_
  refine bd_geti (pc := 125) hq dX12_voice_125 fl_12_338_12 rfl (fun v1 hq => ?_)
  refine bd_if_eq (pc := 128) (tgt := 140) hq dX12_voice_128 (by decide) (fun _ hq => ?_) (fun _ hq => ?_)
  ·
    refine st_iload (pc := 140) dX12_voice_140 rfl ?_
    exact bd_iret (pc := 142) hq dX12_voice_142 rfl
  ·
    refine st_aload_n (pc := 131) dX12_voice_131 rfl ?_
    refine st_bipush (pc := 132) (v := (6 : Int32)) dX12_voice_132 (by decide) ?_
    obtain ⟨⟨hbq2, hkq2⟩, hq⟩ := mh_oi hq
    obtain ⟨q2, e2, hq⟩ := mh_ob hq
    refine st_invV (pc := 134) (ci := 12) (vs := [.int (6 : Int32)]) (rest := []) (st2 := [.int q2.1]) dX12_voice_134 okX12_error (by decide) hkq2 hbq2 wd_1274 wd_1276 wp_37 pdX12_error rfl rfl rfl rfl (Nat.le_trans (by decide) hd) (Nat.le_of_ble_eq_true rfl) (T_X12_error (Nat.le_refl _) e2) rfl ?_
    refine st_goto (pc := 137) (tgt := 142) dX12_voice_137 (by decide) ?_
    exact bd_iret (pc := 142) hq dX12_voice_142 rfl
def D_X12_voice (N : Nat) (h : mh_H) (l0 : Nat) (l1 : Int32) (l2 : Int32) (l3 : Int32) : Option (Int32 × mh_H) :=
  kO h 12 l0 <|
  (D_X12_isWay N h l0 l1).bind fun q1 =>
  if q1.1 = 0 then (D_X12_voice_20 N q1.2 l0)
  else ((D_X12_in N q1.2 l2.toInt64 (0 : Int64) (3 : Int64)).bind fun q2 =>
  if q2.1 = 0 then (D_X12_voice_20 N q2.2 l0)
  else ((pI q2.2 12 l0 22 (0 : Int32)).bind fun h3 =>
  (pB h3 12 l0 26 (0 : Int32)).bind fun h4 =>
  (gR h4 12 l0 0).bind fun v5 =>
  (D_X12_way N h4 l1).bind fun q6 =>
  (aI q6.2 v5 q6.1).bind fun v7 =>
  (pI q6.2 12 l0 23 v7).bind fun h8 =>
  (gR h8 12 l0 0).bind fun v9 =>
  (D_X12_way N h8 l1).bind fun q10 =>
  (aI q10.2 v9 (q10.1 + (3 : Int32))).bind fun v11 =>
  (pI q10.2 12 l0 24 v11).bind fun h12 =>
  (gR h12 12 l0 0).bind fun v13 =>
  (D_X12_way N h12 l1).bind fun q14 =>
  (aI q14.2 v13 (q14.1 + (4 : Int32))).bind fun v15 =>
  (pI q14.2 12 l0 25 v15).bind fun h16 =>
  if l2 = 0 then (kO h16 12 l0 <|
  (D_X12_runs N h16 l0 l3).bind fun q17 =>
  D_X12_voice_122 N q17.2 l0 q17.1)
  else (if l2 = (1 : Int32) then (kO h16 12 l0 <|
  (D_X12_holds N h16 l0 l3).bind fun q17 =>
  D_X12_voice_122 N q17.2 l0 q17.1)
  else (if l2 = (2 : Int32) then (kO h16 12 l0 <|
  (D_X12_spills_ N h16 l0 l3).bind fun q17 =>
  D_X12_voice_122 N q17.2 l0 q17.1)
  else (kO h16 12 l0 <|
  (D_X12_tells N h16 l0 l3).bind fun q17 =>
  D_X12_voice_122 N q17.2 l0 q17.1)))))
set_option maxHeartbeats 4000000 in
set_option maxRecDepth 100000 in
theorem T_X12_voice {P : mh_E → Prop} {N d : Nat} (hd : 9 ≤ d) {z : (Int32 × mh_H)} {h : mh_H} {l0 : Nat} {l1 : Int32} {l2 : Int32} {l3 : Int32} (hq : D_X12_voice N h l0 l1 l2 l3 = some z) : mh_go P d mX12_voice 0 [some (.ref l0), some (.int l1), some (.int l2), some (.int l3), none] [] h (some (.int z.1)) z.2 := by
  unfold D_X12_voice at hq
  refine st_aload_n (pc := 0) dX12_voice_0 rfl ?_
  refine st_iload_n (pc := 1) dX12_voice_1 rfl ?_
  obtain ⟨⟨hbq1, hkq1⟩, hq⟩ := mh_oi hq
  obtain ⟨q1, e1, hq⟩ := mh_ob hq
  refine st_invV (pc := 2) (ci := 12) (vs := [.int l1]) (rest := []) (st2 := [.int q1.1]) dX12_voice_2 okX12_isWay (by decide) hkq1 hbq1 wd_1316 wd_1318 wp_42 pdX12_isWay rfl rfl rfl rfl (Nat.le_trans (by decide) hd) (Nat.le_of_ble_eq_true rfl) (T_X12_isWay (Nat.le_refl _) e1) rfl ?_
  refine bd_if_eq (pc := 5) (tgt := 20) hq dX12_voice_5 (by decide) (fun _ hq => ?_) (fun _ hq => ?_)
  ·
    refine st_lesS (lv' := [some (.ref l0), none, none, none, none]) ⟨Or.inr rfl, Or.inl rfl, Or.inl rfl, Or.inl rfl, Or.inr rfl, trivial⟩ ?_
    exact T_X12_voice_20 hd hq
  ·
    refine st_iload_n (pc := 8) dX12_voice_8 rfl ?_
    refine st_i2l (pc := 9) dX12_voice_9 ?_
    refine st_lconst (pc := 10) (v := 0) dX12_voice_10 rfl ?_
    refine st_ldc2 (pc := 11) (v := (3 : Int64)) dX12_voice_11 wd_1269 ?_
    obtain ⟨q2, e2, hq⟩ := mh_ob hq
    refine st_invS (pc := 14) (Y := mX12_in) (vs := [.long l2.toInt64, .long (0 : Int64), .long (3 : Int64)]) (rest := []) (st2 := [.int q2.1]) dX12_voice_14 okX12_in wd_1270 wd_1271 pdX12_in rfl rfl rfl rfl (Nat.le_trans (by decide) hd) (Nat.le_of_ble_eq_true rfl) (T_X12_in (Nat.le_refl _) e2) rfl ?_
    refine bd_if_ne (pc := 17) (tgt := 26) hq dX12_voice_17 (by decide) (fun _ hq => ?_) (fun _ hq => ?_)
    ·
      refine st_lesS (lv' := [some (.ref l0), none, none, none, none]) ⟨Or.inr rfl, Or.inl rfl, Or.inl rfl, Or.inl rfl, Or.inr rfl, trivial⟩ ?_
      exact T_X12_voice_20 hd hq
    ·
      refine st_aload_n (pc := 26) dX12_voice_26 rfl ?_
      refine st_iconst (pc := 27) (v := (0 : Int32)) dX12_voice_27 rfl ?_
      refine bd_puti (pc := 28) hq dX12_voice_28 fl_12_306_12 (Or.inl rfl) rfl (fun h3 hq => ?_)
      refine st_aload_n (pc := 31) dX12_voice_31 rfl ?_
      refine st_iconst (pc := 32) (v := (0 : Int32)) dX12_voice_32 rfl ?_
      refine bd_putb (pc := 33) hq dX12_voice_33 fl_12_338_12 (Or.inl rfl) rfl (fun h4 hq => ?_)
      refine st_aload_n (pc := 36) dX12_voice_36 rfl ?_
      refine st_aload_n (pc := 37) dX12_voice_37 rfl ?_
      refine bd_getr (pc := 38) hq dX12_voice_38 fl_12_9_12 rfl (fun v5 hq => ?_)
      refine st_iload_n (pc := 41) dX12_voice_41 rfl ?_
      obtain ⟨q6, e6, hq⟩ := mh_ob hq
      refine st_invS (pc := 42) (Y := mX12_way) (vs := [.int l1]) (rest := [.ref v5, .ref l0]) (st2 := [.int q6.1, .ref v5, .ref l0]) dX12_voice_42 okX12_way wd_1309 wd_1310 pdX12_way rfl rfl rfl rfl (Nat.le_trans (by decide) hd) (Nat.le_of_ble_eq_true rfl) (T_X12_way (Nat.le_refl _) e6) rfl ?_
      refine bd_iald (pc := 45) hq dX12_voice_45 (fun v7 hq => ?_)
      refine bd_puti (pc := 46) hq dX12_voice_46 fl_12_318_12 (Or.inl rfl) rfl (fun h8 hq => ?_)
      refine st_aload_n (pc := 49) dX12_voice_49 rfl ?_
      refine st_aload_n (pc := 50) dX12_voice_50 rfl ?_
      refine bd_getr (pc := 51) hq dX12_voice_51 fl_12_9_12 rfl (fun v9 hq => ?_)
      refine st_iload_n (pc := 54) dX12_voice_54 rfl ?_
      obtain ⟨q10, e10, hq⟩ := mh_ob hq
      refine st_invS (pc := 55) (Y := mX12_way) (vs := [.int l1]) (rest := [.ref v9, .ref l0]) (st2 := [.int q10.1, .ref v9, .ref l0]) dX12_voice_55 okX12_way wd_1309 wd_1310 pdX12_way rfl rfl rfl rfl (Nat.le_trans (by decide) hd) (Nat.le_of_ble_eq_true rfl) (T_X12_way (Nat.le_refl _) e10) rfl ?_
      refine st_iconst (pc := 58) (v := (3 : Int32)) dX12_voice_58 rfl ?_
      refine st_iadd (pc := 59) dX12_voice_59 ?_
      refine bd_iald (pc := 60) hq dX12_voice_60 (fun v11 hq => ?_)
      refine bd_puti (pc := 61) hq dX12_voice_61 fl_12_312_12 (Or.inl rfl) rfl (fun h12 hq => ?_)
      refine st_aload_n (pc := 64) dX12_voice_64 rfl ?_
      refine st_aload_n (pc := 65) dX12_voice_65 rfl ?_
      refine bd_getr (pc := 66) hq dX12_voice_66 fl_12_9_12 rfl (fun v13 hq => ?_)
      refine st_iload_n (pc := 69) dX12_voice_69 rfl ?_
      obtain ⟨q14, e14, hq⟩ := mh_ob hq
      refine st_invS (pc := 70) (Y := mX12_way) (vs := [.int l1]) (rest := [.ref v13, .ref l0]) (st2 := [.int q14.1, .ref v13, .ref l0]) dX12_voice_70 okX12_way wd_1309 wd_1310 pdX12_way rfl rfl rfl rfl (Nat.le_trans (by decide) hd) (Nat.le_of_ble_eq_true rfl) (T_X12_way (Nat.le_refl _) e14) rfl ?_
      refine st_iconst (pc := 73) (v := (4 : Int32)) dX12_voice_73 rfl ?_
      refine st_iadd (pc := 74) dX12_voice_74 ?_
      refine bd_iald (pc := 75) hq dX12_voice_75 (fun v15 hq => ?_)
      refine bd_puti (pc := 76) hq dX12_voice_76 fl_12_321_12 (Or.inl rfl) rfl (fun h16 hq => ?_)
      refine st_iload_n (pc := 79) dX12_voice_79 rfl ?_
      refine bd_if_ne (pc := 80) (tgt := 91) hq dX12_voice_80 (by decide) (fun _ hq => ?_) (fun _ hq => ?_)
      ·
        refine st_aload_n (pc := 83) dX12_voice_83 rfl ?_
        refine st_iload_n (pc := 84) dX12_voice_84 rfl ?_
        obtain ⟨⟨hbq17, hkq17⟩, hq⟩ := mh_oi hq
        obtain ⟨q17, e17, hq⟩ := mh_ob hq
        refine st_invV (pc := 85) (ci := 12) (vs := [.int l3]) (rest := []) (st2 := [.int q17.1]) dX12_voice_85 okX12_runs (by decide) hkq17 hbq17 wd_1645 wd_1647 wp_84 pdX12_runs rfl rfl rfl rfl (Nat.le_trans (by decide) hd) (Nat.le_of_ble_eq_true rfl) (T_X12_runs (Nat.le_refl _) e17) rfl ?_
        refine st_goto (pc := 88) (tgt := 122) dX12_voice_88 (by decide) ?_
        refine st_lesS (lv' := [some (.ref l0), none, none, none, none]) ⟨Or.inr rfl, Or.inl rfl, Or.inl rfl, Or.inl rfl, Or.inr rfl, trivial⟩ ?_
        exact T_X12_voice_122 hd hq
      ·
        refine st_iload_n (pc := 91) dX12_voice_91 rfl ?_
        refine st_iconst (pc := 92) (v := (1 : Int32)) dX12_voice_92 rfl ?_
        refine bd_icmp_ne (pc := 93) (tgt := 104) hq dX12_voice_93 (by decide) (fun _ hq => ?_) (fun _ hq => ?_)
        ·
          refine st_aload_n (pc := 96) dX12_voice_96 rfl ?_
          refine st_iload_n (pc := 97) dX12_voice_97 rfl ?_
          obtain ⟨⟨hbq17, hkq17⟩, hq⟩ := mh_oi hq
          obtain ⟨q17, e17, hq⟩ := mh_ob hq
          refine st_invV (pc := 98) (ci := 12) (vs := [.int l3]) (rest := []) (st2 := [.int q17.1]) dX12_voice_98 okX12_holds (by decide) hkq17 hbq17 wd_1661 wd_1663 wp_88 pdX12_holds rfl rfl rfl rfl (Nat.le_trans (by decide) hd) (Nat.le_of_ble_eq_true rfl) (T_X12_holds (Nat.le_refl _) e17) rfl ?_
          refine st_goto (pc := 101) (tgt := 122) dX12_voice_101 (by decide) ?_
          refine st_lesS (lv' := [some (.ref l0), none, none, none, none]) ⟨Or.inr rfl, Or.inl rfl, Or.inl rfl, Or.inl rfl, Or.inr rfl, trivial⟩ ?_
          exact T_X12_voice_122 hd hq
        ·
          refine st_iload_n (pc := 104) dX12_voice_104 rfl ?_
          refine st_iconst (pc := 105) (v := (2 : Int32)) dX12_voice_105 rfl ?_
          refine bd_icmp_ne (pc := 106) (tgt := 117) hq dX12_voice_106 (by decide) (fun _ hq => ?_) (fun _ hq => ?_)
          ·
            refine st_aload_n (pc := 109) dX12_voice_109 rfl ?_
            refine st_iload_n (pc := 110) dX12_voice_110 rfl ?_
            obtain ⟨⟨hbq17, hkq17⟩, hq⟩ := mh_oi hq
            obtain ⟨q17, e17, hq⟩ := mh_ob hq
            refine st_invV (pc := 111) (ci := 12) (vs := [.int l3]) (rest := []) (st2 := [.int q17.1]) dX12_voice_111 okX12_spills_ (by decide) hkq17 hbq17 wd_1669 wd_1671 wp_90 pdX12_spills_ rfl rfl rfl rfl (Nat.le_trans (by decide) hd) (Nat.le_of_ble_eq_true rfl) (T_X12_spills_ (Nat.le_refl _) e17) rfl ?_
            refine st_goto (pc := 114) (tgt := 122) dX12_voice_114 (by decide) ?_
            refine st_lesS (lv' := [some (.ref l0), none, none, none, none]) ⟨Or.inr rfl, Or.inl rfl, Or.inl rfl, Or.inl rfl, Or.inr rfl, trivial⟩ ?_
            exact T_X12_voice_122 hd hq
          ·
            refine st_aload_n (pc := 117) dX12_voice_117 rfl ?_
            refine st_iload_n (pc := 118) dX12_voice_118 rfl ?_
            obtain ⟨⟨hbq17, hkq17⟩, hq⟩ := mh_oi hq
            obtain ⟨q17, e17, hq⟩ := mh_ob hq
            refine st_invV (pc := 119) (ci := 12) (vs := [.int l3]) (rest := []) (st2 := [.int q17.1]) dX12_voice_119 okX12_tells (by decide) hkq17 hbq17 wd_1677 wd_1679 wp_92 pdX12_tells rfl rfl rfl rfl (Nat.le_trans (by decide) hd) (Nat.le_of_ble_eq_true rfl) (T_X12_tells (Nat.le_refl _) e17) rfl ?_
            refine st_lesS (lv' := [some (.ref l0), none, none, none, none]) ⟨Or.inr rfl, Or.inl rfl, Or.inl rfl, Or.inl rfl, Or.inr rfl, trivial⟩ ?_
            exact T_X12_voice_122 hd hq
-- HoleWaterModel.trace(I)I
theorem dX12_trace_0 : decode cX12_trace 0 = .ok (.iload_n 1, 1) := by decide +kernel
theorem dX12_trace_1 : decode cX12_trace 1 = .ok (.i2l, 1) := by decide +kernel
theorem dX12_trace_2 : decode cX12_trace 2 = .ok (.lconst 0, 1) := by decide +kernel
theorem dX12_trace_3 : decode cX12_trace 3 = .ok (.aload_n 0, 1) := by decide +kernel
theorem dX12_trace_4 : decode cX12_trace 4 = .ok (.getfield 306, 3) := by decide +kernel
theorem dX12_trace_7 : decode cX12_trace 7 = .ok (.iconst 1, 1) := by decide +kernel
theorem dX12_trace_8 : decode cX12_trace 8 = .ok (.isub, 1) := by decide +kernel
theorem dX12_trace_9 : decode cX12_trace 9 = .ok (.i2l, 1) := by decide +kernel
theorem dX12_trace_10 : decode cX12_trace 10 = .ok (.invokestatic 65, 3) := by decide +kernel
theorem dX12_trace_13 : decode cX12_trace 13 = .ok (.ifCond .eq 12, 3) := by decide +kernel
theorem dX12_trace_25 : decode cX12_trace 25 = .ok (.aload_n 0, 1) := by decide +kernel
theorem dX12_trace_26 : decode cX12_trace 26 = .ok (.iconst 2, 1) := by decide +kernel
theorem dX12_trace_27 : decode cX12_trace 27 = .ok (.invokevirtual 80, 3) := by decide +kernel
theorem dX12_trace_30 : decode cX12_trace 30 = .ok (.ireturn, 1) := by decide +kernel
theorem dX12_trace_16 : decode cX12_trace 16 = .ok (.aload_n 0, 1) := by decide +kernel
theorem dX12_trace_17 : decode cX12_trace 17 = .ok (.getfield 52, 3) := by decide +kernel
theorem dX12_trace_20 : decode cX12_trace 20 = .ok (.iload_n 1, 1) := by decide +kernel
theorem dX12_trace_21 : decode cX12_trace 21 = .ok (.iaload, 1) := by decide +kernel
theorem dX12_trace_22 : decode cX12_trace 22 = .ok (.goto 8, 3) := by decide +kernel
def D_X12_trace (N : Nat) (h : mh_H) (l0 : Nat) (l1 : Int32) : Option (Int32 × mh_H) :=
  (gI h 12 l0 22).bind fun v1 =>
  (D_X12_in N h l1.toInt64 (0 : Int64) ((v1 - (1 : Int32)).toInt64)).bind fun q2 =>
  if q2.1 = 0 then (kO q2.2 12 l0 <|
  (D_X12_error N q2.2 l0 (2 : Int32)).bind fun q3 =>
  some (q3.1, q3.2))
  else ((gR q2.2 12 l0 21).bind fun v3 =>
  (aI q2.2 v3 l1).bind fun v4 =>
  some (v4, q2.2))
set_option maxHeartbeats 4000000 in
set_option maxRecDepth 100000 in
theorem T_X12_trace {P : mh_E → Prop} {N d : Nat} (hd : 2 ≤ d) {z : (Int32 × mh_H)} {h : mh_H} {l0 : Nat} {l1 : Int32} (hq : D_X12_trace N h l0 l1 = some z) : mh_go P d mX12_trace 0 [some (.ref l0), some (.int l1)] [] h (some (.int z.1)) z.2 := by
  unfold D_X12_trace at hq
  refine st_iload_n (pc := 0) dX12_trace_0 rfl ?_
  refine st_i2l (pc := 1) dX12_trace_1 ?_
  refine st_lconst (pc := 2) (v := 0) dX12_trace_2 rfl ?_
  refine st_aload_n (pc := 3) dX12_trace_3 rfl ?_
  refine bd_geti (pc := 4) hq dX12_trace_4 fl_12_306_12 rfl (fun v1 hq => ?_)
  refine st_iconst (pc := 7) (v := (1 : Int32)) dX12_trace_7 rfl ?_
  refine st_isub (pc := 8) dX12_trace_8 ?_
  refine st_i2l (pc := 9) dX12_trace_9 ?_
  obtain ⟨q2, e2, hq⟩ := mh_ob hq
  refine st_invS (pc := 10) (Y := mX12_in) (vs := [.long l1.toInt64, .long (0 : Int64), .long ((v1 - (1 : Int32)).toInt64)]) (rest := []) (st2 := [.int q2.1]) dX12_trace_10 okX12_in wd_1270 wd_1271 pdX12_in rfl rfl rfl rfl (Nat.le_trans (by decide) hd) (Nat.le_of_ble_eq_true rfl) (T_X12_in (Nat.le_refl _) e2) rfl ?_
  refine bd_if_eq (pc := 13) (tgt := 25) hq dX12_trace_13 (by decide) (fun _ hq => ?_) (fun _ hq => ?_)
  ·
    refine st_aload_n (pc := 25) dX12_trace_25 rfl ?_
    refine st_iconst (pc := 26) (v := (2 : Int32)) dX12_trace_26 rfl ?_
    obtain ⟨⟨hbq3, hkq3⟩, hq⟩ := mh_oi hq
    obtain ⟨q3, e3, hq⟩ := mh_ob hq
    refine st_invV (pc := 27) (ci := 12) (vs := [.int (2 : Int32)]) (rest := []) (st2 := [.int q3.1]) dX12_trace_27 okX12_error (by decide) hkq3 hbq3 wd_1274 wd_1276 wp_37 pdX12_error rfl rfl rfl rfl (Nat.le_trans (by decide) hd) (Nat.le_of_ble_eq_true rfl) (T_X12_error (Nat.le_refl _) e3) rfl ?_
    exact bd_iret (pc := 30) hq dX12_trace_30 rfl
  ·
    refine st_aload_n (pc := 16) dX12_trace_16 rfl ?_
    refine bd_getr (pc := 17) hq dX12_trace_17 fl_12_52_12 rfl (fun v3 hq => ?_)
    refine st_iload_n (pc := 20) dX12_trace_20 rfl ?_
    refine bd_iald (pc := 21) hq dX12_trace_21 (fun v4 hq => ?_)
    refine st_goto (pc := 22) (tgt := 30) dX12_trace_22 (by decide) ?_
    exact bd_iret (pc := 30) hq dX12_trace_30 rfl
-- HoleWaterModel.sheet(III)I
theorem dX12_sheet_29 : decode cX12_sheet 29 = .ok (.aload_n 0, 1) := by decide +kernel
theorem dX12_sheet_30 : decode cX12_sheet 30 = .ok (.iconst 1, 1) := by decide +kernel
theorem dX12_sheet_31 : decode cX12_sheet 31 = .ok (.invokevirtual 80, 3) := by decide +kernel
theorem dX12_sheet_34 : decode cX12_sheet 34 = .ok (.ireturn, 1) := by decide +kernel
theorem dX12_sheet_90 : decode cX12_sheet 90 = .ok (.iload 4, 2) := by decide +kernel
theorem dX12_sheet_92 : decode cX12_sheet 92 = .ok (.bipush 24, 2) := by decide +kernel
theorem dX12_sheet_94 : decode cX12_sheet 94 = .ok (.if_icmp .ge 22, 3) := by decide +kernel
theorem dX12_sheet_116 : decode cX12_sheet 116 = .ok (.iconst 1, 1) := by decide +kernel
theorem dX12_sheet_117 : decode cX12_sheet 117 = .ok (.ireturn, 1) := by decide +kernel
theorem dX12_sheet_97 : decode cX12_sheet 97 = .ok (.aload_n 0, 1) := by decide +kernel
theorem dX12_sheet_98 : decode cX12_sheet 98 = .ok (.getfield 61, 3) := by decide +kernel
theorem dX12_sheet_101 : decode cX12_sheet 101 = .ok (.bipush 24, 2) := by decide +kernel
theorem dX12_sheet_103 : decode cX12_sheet 103 = .ok (.iload_n 1, 1) := by decide +kernel
theorem dX12_sheet_104 : decode cX12_sheet 104 = .ok (.imul, 1) := by decide +kernel
theorem dX12_sheet_105 : decode cX12_sheet 105 = .ok (.iload 4, 2) := by decide +kernel
theorem dX12_sheet_107 : decode cX12_sheet 107 = .ok (.iadd, 1) := by decide +kernel
theorem dX12_sheet_108 : decode cX12_sheet 108 = .ok (.iconst 0, 1) := by decide +kernel
theorem dX12_sheet_109 : decode cX12_sheet 109 = .ok (.iastore, 1) := by decide +kernel
theorem dX12_sheet_110 : decode cX12_sheet 110 = .ok (.iinc 4 1, 3) := by decide +kernel
theorem dX12_sheet_113 : decode cX12_sheet 113 = .ok (.goto (-23), 3) := by decide +kernel
theorem dX12_sheet_86 : decode cX12_sheet 86 = .ok (.iastore, 1) := by decide +kernel
theorem dX12_sheet_87 : decode cX12_sheet 87 = .ok (.iconst 0, 1) := by decide +kernel
theorem dX12_sheet_88 : decode cX12_sheet 88 = .ok (.istore 4, 2) := by decide +kernel
theorem dX12_sheet_65 : decode cX12_sheet 65 = .ok (.aload_n 0, 1) := by decide +kernel
theorem dX12_sheet_66 : decode cX12_sheet 66 = .ok (.getfield 55, 3) := by decide +kernel
theorem dX12_sheet_69 : decode cX12_sheet 69 = .ok (.iload_n 1, 1) := by decide +kernel
theorem dX12_sheet_70 : decode cX12_sheet 70 = .ok (.iload_n 2, 1) := by decide +kernel
theorem dX12_sheet_71 : decode cX12_sheet 71 = .ok (.iastore, 1) := by decide +kernel
theorem dX12_sheet_72 : decode cX12_sheet 72 = .ok (.aload_n 0, 1) := by decide +kernel
theorem dX12_sheet_73 : decode cX12_sheet 73 = .ok (.getfield 58, 3) := by decide +kernel
theorem dX12_sheet_76 : decode cX12_sheet 76 = .ok (.iload_n 1, 1) := by decide +kernel
theorem dX12_sheet_77 : decode cX12_sheet 77 = .ok (.iload_n 2, 1) := by decide +kernel
theorem dX12_sheet_78 : decode cX12_sheet 78 = .ok (.ifCond .ne 7, 3) := by decide +kernel
theorem dX12_sheet_81 : decode cX12_sheet 81 = .ok (.iconst 0, 1) := by decide +kernel
theorem dX12_sheet_82 : decode cX12_sheet 82 = .ok (.goto 4, 3) := by decide +kernel
theorem dX12_sheet_85 : decode cX12_sheet 85 = .ok (.iload_n 3, 1) := by decide +kernel
theorem dX12_sheet_49 : decode cX12_sheet 49 = .ok (.iload_n 2, 1) := by decide +kernel
theorem dX12_sheet_50 : decode cX12_sheet 50 = .ok (.ifCond .eq 15, 3) := by decide +kernel
theorem dX12_sheet_53 : decode cX12_sheet 53 = .ok (.iload_n 3, 1) := by decide +kernel
theorem dX12_sheet_54 : decode cX12_sheet 54 = .ok (.bipush 24, 2) := by decide +kernel
theorem dX12_sheet_56 : decode cX12_sheet 56 = .ok (.if_icmp .le 9, 3) := by decide +kernel
theorem dX12_sheet_59 : decode cX12_sheet 59 = .ok (.aload_n 0, 1) := by decide +kernel
theorem dX12_sheet_60 : decode cX12_sheet 60 = .ok (.iconst 1, 1) := by decide +kernel
theorem dX12_sheet_61 : decode cX12_sheet 61 = .ok (.invokevirtual 80, 3) := by decide +kernel
theorem dX12_sheet_64 : decode cX12_sheet 64 = .ok (.ireturn, 1) := by decide +kernel
theorem dX12_sheet_35 : decode cX12_sheet 35 = .ok (.iload_n 2, 1) := by decide +kernel
theorem dX12_sheet_36 : decode cX12_sheet 36 = .ok (.ifCond .eq 13, 3) := by decide +kernel
theorem dX12_sheet_39 : decode cX12_sheet 39 = .ok (.iload_n 3, 1) := by decide +kernel
theorem dX12_sheet_40 : decode cX12_sheet 40 = .ok (.ifCond .ge 9, 3) := by decide +kernel
theorem dX12_sheet_43 : decode cX12_sheet 43 = .ok (.aload_n 0, 1) := by decide +kernel
theorem dX12_sheet_44 : decode cX12_sheet 44 = .ok (.iconst 3, 1) := by decide +kernel
theorem dX12_sheet_45 : decode cX12_sheet 45 = .ok (.invokevirtual 80, 3) := by decide +kernel
theorem dX12_sheet_48 : decode cX12_sheet 48 = .ok (.ireturn, 1) := by decide +kernel
theorem dX12_sheet_0 : decode cX12_sheet 0 = .ok (.iload_n 1, 1) := by decide +kernel
theorem dX12_sheet_1 : decode cX12_sheet 1 = .ok (.invokestatic 169, 3) := by decide +kernel
theorem dX12_sheet_4 : decode cX12_sheet 4 = .ok (.ifCond .eq 25, 3) := by decide +kernel
theorem dX12_sheet_7 : decode cX12_sheet 7 = .ok (.iload_n 2, 1) := by decide +kernel
theorem dX12_sheet_8 : decode cX12_sheet 8 = .ok (.ifCond .eq 27, 3) := by decide +kernel
theorem dX12_sheet_11 : decode cX12_sheet 11 = .ok (.iload_n 2, 1) := by decide +kernel
theorem dX12_sheet_12 : decode cX12_sheet 12 = .ok (.bipush 8, 2) := by decide +kernel
theorem dX12_sheet_14 : decode cX12_sheet 14 = .ok (.if_icmp .eq 21, 3) := by decide +kernel
theorem dX12_sheet_17 : decode cX12_sheet 17 = .ok (.iload_n 2, 1) := by decide +kernel
theorem dX12_sheet_18 : decode cX12_sheet 18 = .ok (.bipush 16, 2) := by decide +kernel
theorem dX12_sheet_20 : decode cX12_sheet 20 = .ok (.if_icmp .eq 15, 3) := by decide +kernel
theorem dX12_sheet_23 : decode cX12_sheet 23 = .ok (.iload_n 2, 1) := by decide +kernel
theorem dX12_sheet_24 : decode cX12_sheet 24 = .ok (.bipush 32, 2) := by decide +kernel
theorem dX12_sheet_26 : decode cX12_sheet 26 = .ok (.if_icmp .eq 9, 3) := by decide +kernel
def D_X12_sheet_29 (N : Nat) (h : mh_H) (l0 : Nat) : Option (Int32 × mh_H) :=
  kO h 12 l0 <|
  (D_X12_error N h l0 (1 : Int32)).bind fun q1 =>
  some (q1.1, q1.2)
set_option maxHeartbeats 4000000 in
set_option maxRecDepth 100000 in
theorem T_X12_sheet_29 {P : mh_E → Prop} {N d : Nat} (hd : 3 ≤ d) {z : (Int32 × mh_H)} {h : mh_H} {l0 : Nat} (hq : D_X12_sheet_29 N h l0 = some z) : mh_go P d mX12_sheet 29 [some (.ref l0), none, none, none, none] [] h (some (.int z.1)) z.2 := by
  unfold D_X12_sheet_29 at hq
  refine st_aload_n (pc := 29) dX12_sheet_29 rfl ?_
  refine st_iconst (pc := 30) (v := (1 : Int32)) dX12_sheet_30 rfl ?_
  obtain ⟨⟨hbq1, hkq1⟩, hq⟩ := mh_oi hq
  obtain ⟨q1, e1, hq⟩ := mh_ob hq
  refine st_invV (pc := 31) (ci := 12) (vs := [.int (1 : Int32)]) (rest := []) (st2 := [.int q1.1]) dX12_sheet_31 okX12_error (by decide) hkq1 hbq1 wd_1274 wd_1276 wp_37 pdX12_error rfl rfl rfl rfl (Nat.le_trans (by decide) hd) (Nat.le_of_ble_eq_true rfl) (T_X12_error (Nat.le_refl _) e1) rfl ?_
  exact bd_iret (pc := 34) hq dX12_sheet_34 rfl
def D_X12_sheet_90 (N : Nat) : Nat → mh_H → Nat → Int32 → Int32 → Option (Int32 × mh_H)
  | 0, _, _, _, _ => none
  | F + 1, h, l0, l1, l4 =>
    if (24 : Int32) ≤ l4 then (some ((1 : Int32), h))
    else ((gR h 12 l0 29).bind fun v1 =>
    (uI h v1 (((24 : Int32) * l1) + l4) (0 : Int32)).bind fun h2 =>
    (D_X12_sheet_90 N F) h2 l0 l1 (l4 + Int32.ofInt (1)))
set_option maxHeartbeats 4000000 in
set_option maxRecDepth 100000 in
theorem T_X12_sheet_90 {P : mh_E → Prop} {N d : Nat} (hd : 3 ≤ d) {z : (Int32 × mh_H)} : ∀ (F : Nat) (h : mh_H) (l0 : Nat) (l1 : Int32) (l4 : Int32), D_X12_sheet_90 N F h l0 l1 l4 = some z → mh_go P d mX12_sheet 90 [some (.ref l0), some (.int l1), none, none, some (.int l4)] [] h (some (.int z.1)) z.2 := by
  intro F
  induction F with
  | zero => intro h l0 l1 l4 hq; rw [D_X12_sheet_90] at hq; cases hq
  | succ F ih =>
    intro h l0 l1 l4 hq
    rw [D_X12_sheet_90] at hq
    refine st_iload (pc := 90) dX12_sheet_90 rfl ?_
    refine st_bipush (pc := 92) (v := (24 : Int32)) dX12_sheet_92 (by decide) ?_
    refine bd_icmp_ge (pc := 94) (tgt := 116) hq dX12_sheet_94 (by decide) (fun _ hq => ?_) (fun _ hq => ?_)
    ·
      refine st_iconst (pc := 116) (v := (1 : Int32)) dX12_sheet_116 rfl ?_
      exact bd_iret (pc := 117) hq dX12_sheet_117 rfl
    ·
      refine st_aload_n (pc := 97) dX12_sheet_97 rfl ?_
      refine bd_getr (pc := 98) hq dX12_sheet_98 fl_12_61_12 rfl (fun v1 hq => ?_)
      refine st_bipush (pc := 101) (v := (24 : Int32)) dX12_sheet_101 (by decide) ?_
      refine st_iload_n (pc := 103) dX12_sheet_103 rfl ?_
      refine st_imul (pc := 104) dX12_sheet_104 ?_
      refine st_iload (pc := 105) dX12_sheet_105 rfl ?_
      refine st_iadd (pc := 107) dX12_sheet_107 ?_
      refine st_iconst (pc := 108) (v := (0 : Int32)) dX12_sheet_108 rfl ?_
      refine bd_iast (pc := 109) hq dX12_sheet_109 (fun h2 hq => ?_)
      refine st_iinc (pc := 110) (lv' := [some (.ref l0), some (.int l1), none, none, some (.int (l4 + Int32.ofInt (1)))]) dX12_sheet_110 rfl rfl (by decide) rfl ?_
      refine st_goto (pc := 113) (tgt := 90) dX12_sheet_113 (by decide) ?_
      exact ih _ _ _ _ hq
def D_X12_sheet_86 (N : Nat) (h : mh_H) (l0 : Nat) (l1 : Int32) (s0 : Nat) (s1 : Int32) (s2 : Int32) : Option (Int32 × mh_H) :=
  (uI h s0 s1 s2).bind fun h1 =>
  D_X12_sheet_90 N N h1 l0 l1 (0 : Int32)
set_option maxHeartbeats 4000000 in
set_option maxRecDepth 100000 in
theorem T_X12_sheet_86 {P : mh_E → Prop} {N d : Nat} (hd : 3 ≤ d) {z : (Int32 × mh_H)} {h : mh_H} {l0 : Nat} {l1 : Int32} {s0 : Nat} {s1 : Int32} {s2 : Int32} (hq : D_X12_sheet_86 N h l0 l1 s0 s1 s2 = some z) : mh_go P d mX12_sheet 86 [some (.ref l0), some (.int l1), none, none, none] [.int s2, .int s1, .ref s0] h (some (.int z.1)) z.2 := by
  unfold D_X12_sheet_86 at hq
  refine bd_iast (pc := 86) hq dX12_sheet_86 (fun h1 hq => ?_)
  refine st_iconst (pc := 87) (v := (0 : Int32)) dX12_sheet_87 rfl ?_
  refine st_istore (pc := 88) (lv' := [some (.ref l0), some (.int l1), none, none, some (.int (0 : Int32))]) dX12_sheet_88 rfl (by decide) rfl ?_
  exact T_X12_sheet_90 hd N _ _ _ _ hq
def D_X12_sheet_65 (N : Nat) (h : mh_H) (l0 : Nat) (l1 : Int32) (l2 : Int32) (l3 : Int32) : Option (Int32 × mh_H) :=
  (gR h 12 l0 27).bind fun v1 =>
  (uI h v1 l1 l2).bind fun h2 =>
  (gR h2 12 l0 28).bind fun v3 =>
  if l2 = 0 then (D_X12_sheet_86 N h2 l0 l1 v3 l1 (0 : Int32))
  else (D_X12_sheet_86 N h2 l0 l1 v3 l1 l3)
set_option maxHeartbeats 4000000 in
set_option maxRecDepth 100000 in
theorem T_X12_sheet_65 {P : mh_E → Prop} {N d : Nat} (hd : 3 ≤ d) {z : (Int32 × mh_H)} {h : mh_H} {l0 : Nat} {l1 : Int32} {l2 : Int32} {l3 : Int32} (hq : D_X12_sheet_65 N h l0 l1 l2 l3 = some z) : mh_go P d mX12_sheet 65 [some (.ref l0), some (.int l1), some (.int l2), some (.int l3), none] [] h (some (.int z.1)) z.2 := by
  unfold D_X12_sheet_65 at hq
  refine st_aload_n (pc := 65) dX12_sheet_65 rfl ?_
  refine bd_getr (pc := 66) hq dX12_sheet_66 fl_12_55_12 rfl (fun v1 hq => ?_)
  refine st_iload_n (pc := 69) dX12_sheet_69 rfl ?_
  refine st_iload_n (pc := 70) dX12_sheet_70 rfl ?_
  refine bd_iast (pc := 71) hq dX12_sheet_71 (fun h2 hq => ?_)
  refine st_aload_n (pc := 72) dX12_sheet_72 rfl ?_
  refine bd_getr (pc := 73) hq dX12_sheet_73 fl_12_58_12 rfl (fun v3 hq => ?_)
  refine st_iload_n (pc := 76) dX12_sheet_76 rfl ?_
  refine st_iload_n (pc := 77) dX12_sheet_77 rfl ?_
  refine bd_if_ne (pc := 78) (tgt := 85) hq dX12_sheet_78 (by decide) (fun _ hq => ?_) (fun _ hq => ?_)
  ·
    refine st_iconst (pc := 81) (v := (0 : Int32)) dX12_sheet_81 rfl ?_
    refine st_goto (pc := 82) (tgt := 86) dX12_sheet_82 (by decide) ?_
    refine st_lesS (lv' := [some (.ref l0), some (.int l1), none, none, none]) ⟨Or.inr rfl, Or.inr rfl, Or.inl rfl, Or.inl rfl, Or.inr rfl, trivial⟩ ?_
    exact T_X12_sheet_86 hd hq
  ·
    refine st_iload_n (pc := 85) dX12_sheet_85 rfl ?_
    refine st_lesS (lv' := [some (.ref l0), some (.int l1), none, none, none]) ⟨Or.inr rfl, Or.inr rfl, Or.inl rfl, Or.inl rfl, Or.inr rfl, trivial⟩ ?_
    exact T_X12_sheet_86 hd hq
def D_X12_sheet_49 (N : Nat) (h : mh_H) (l0 : Nat) (l1 : Int32) (l2 : Int32) (l3 : Int32) : Option (Int32 × mh_H) :=
  if l2 = 0 then (D_X12_sheet_65 N h l0 l1 l2 l3)
  else (if l3 ≤ (24 : Int32) then (D_X12_sheet_65 N h l0 l1 l2 l3)
  else (kO h 12 l0 <|
  (D_X12_error N h l0 (1 : Int32)).bind fun q1 =>
  some (q1.1, q1.2)))
set_option maxHeartbeats 4000000 in
set_option maxRecDepth 100000 in
theorem T_X12_sheet_49 {P : mh_E → Prop} {N d : Nat} (hd : 3 ≤ d) {z : (Int32 × mh_H)} {h : mh_H} {l0 : Nat} {l1 : Int32} {l2 : Int32} {l3 : Int32} (hq : D_X12_sheet_49 N h l0 l1 l2 l3 = some z) : mh_go P d mX12_sheet 49 [some (.ref l0), some (.int l1), some (.int l2), some (.int l3), none] [] h (some (.int z.1)) z.2 := by
  unfold D_X12_sheet_49 at hq
  refine st_iload_n (pc := 49) dX12_sheet_49 rfl ?_
  refine bd_if_eq (pc := 50) (tgt := 65) hq dX12_sheet_50 (by decide) (fun _ hq => ?_) (fun _ hq => ?_)
  ·
    exact T_X12_sheet_65 hd hq
  ·
    refine st_iload_n (pc := 53) dX12_sheet_53 rfl ?_
    refine st_bipush (pc := 54) (v := (24 : Int32)) dX12_sheet_54 (by decide) ?_
    refine bd_icmp_le (pc := 56) (tgt := 65) hq dX12_sheet_56 (by decide) (fun _ hq => ?_) (fun _ hq => ?_)
    ·
      exact T_X12_sheet_65 hd hq
    ·
      refine st_aload_n (pc := 59) dX12_sheet_59 rfl ?_
      refine st_iconst (pc := 60) (v := (1 : Int32)) dX12_sheet_60 rfl ?_
      obtain ⟨⟨hbq1, hkq1⟩, hq⟩ := mh_oi hq
      obtain ⟨q1, e1, hq⟩ := mh_ob hq
      refine st_invV (pc := 61) (ci := 12) (vs := [.int (1 : Int32)]) (rest := []) (st2 := [.int q1.1]) dX12_sheet_61 okX12_error (by decide) hkq1 hbq1 wd_1274 wd_1276 wp_37 pdX12_error rfl rfl rfl rfl (Nat.le_trans (by decide) hd) (Nat.le_of_ble_eq_true rfl) (T_X12_error (Nat.le_refl _) e1) rfl ?_
      exact bd_iret (pc := 64) hq dX12_sheet_64 rfl
def D_X12_sheet_35 (N : Nat) (h : mh_H) (l0 : Nat) (l1 : Int32) (l2 : Int32) (l3 : Int32) : Option (Int32 × mh_H) :=
  if l2 = 0 then (D_X12_sheet_49 N h l0 l1 l2 l3)
  else (if 0 ≤ l3 then (D_X12_sheet_49 N h l0 l1 l2 l3)
  else (kO h 12 l0 <|
  (D_X12_error N h l0 (3 : Int32)).bind fun q1 =>
  some (q1.1, q1.2)))
set_option maxHeartbeats 4000000 in
set_option maxRecDepth 100000 in
theorem T_X12_sheet_35 {P : mh_E → Prop} {N d : Nat} (hd : 3 ≤ d) {z : (Int32 × mh_H)} {h : mh_H} {l0 : Nat} {l1 : Int32} {l2 : Int32} {l3 : Int32} (hq : D_X12_sheet_35 N h l0 l1 l2 l3 = some z) : mh_go P d mX12_sheet 35 [some (.ref l0), some (.int l1), some (.int l2), some (.int l3), none] [] h (some (.int z.1)) z.2 := by
  unfold D_X12_sheet_35 at hq
  refine st_iload_n (pc := 35) dX12_sheet_35 rfl ?_
  refine bd_if_eq (pc := 36) (tgt := 49) hq dX12_sheet_36 (by decide) (fun _ hq => ?_) (fun _ hq => ?_)
  ·
    exact T_X12_sheet_49 hd hq
  ·
    refine st_iload_n (pc := 39) dX12_sheet_39 rfl ?_
    refine bd_if_ge (pc := 40) (tgt := 49) hq dX12_sheet_40 (by decide) (fun _ hq => ?_) (fun _ hq => ?_)
    ·
      exact T_X12_sheet_49 hd hq
    ·
      refine st_aload_n (pc := 43) dX12_sheet_43 rfl ?_
      refine st_iconst (pc := 44) (v := (3 : Int32)) dX12_sheet_44 rfl ?_
      obtain ⟨⟨hbq1, hkq1⟩, hq⟩ := mh_oi hq
      obtain ⟨q1, e1, hq⟩ := mh_ob hq
      refine st_invV (pc := 45) (ci := 12) (vs := [.int (3 : Int32)]) (rest := []) (st2 := [.int q1.1]) dX12_sheet_45 okX12_error (by decide) hkq1 hbq1 wd_1274 wd_1276 wp_37 pdX12_error rfl rfl rfl rfl (Nat.le_trans (by decide) hd) (Nat.le_of_ble_eq_true rfl) (T_X12_error (Nat.le_refl _) e1) rfl ?_
      exact bd_iret (pc := 48) hq dX12_sheet_48 rfl
def D_X12_sheet (N : Nat) (h : mh_H) (l0 : Nat) (l1 : Int32) (l2 : Int32) (l3 : Int32) : Option (Int32 × mh_H) :=
  (D_X12_isSheet N h l1).bind fun q1 =>
  if q1.1 = 0 then (D_X12_sheet_29 N q1.2 l0)
  else (if l2 = 0 then (D_X12_sheet_35 N q1.2 l0 l1 l2 l3)
  else (if l2 = (8 : Int32) then (D_X12_sheet_35 N q1.2 l0 l1 l2 l3)
  else (if l2 = (16 : Int32) then (D_X12_sheet_35 N q1.2 l0 l1 l2 l3)
  else (if l2 = (32 : Int32) then (D_X12_sheet_35 N q1.2 l0 l1 l2 l3)
  else (D_X12_sheet_29 N q1.2 l0)))))
set_option maxHeartbeats 4000000 in
set_option maxRecDepth 100000 in
theorem T_X12_sheet {P : mh_E → Prop} {N d : Nat} (hd : 3 ≤ d) {z : (Int32 × mh_H)} {h : mh_H} {l0 : Nat} {l1 : Int32} {l2 : Int32} {l3 : Int32} (hq : D_X12_sheet N h l0 l1 l2 l3 = some z) : mh_go P d mX12_sheet 0 [some (.ref l0), some (.int l1), some (.int l2), some (.int l3), none] [] h (some (.int z.1)) z.2 := by
  unfold D_X12_sheet at hq
  refine st_iload_n (pc := 0) dX12_sheet_0 rfl ?_
  obtain ⟨q1, e1, hq⟩ := mh_ob hq
  refine st_invS (pc := 1) (Y := mX12_isSheet) (vs := [.int l1]) (rest := []) (st2 := [.int q1.1]) dX12_sheet_1 okX12_isSheet wd_1440 wd_1441 pdX12_isSheet rfl rfl rfl rfl (Nat.le_trans (by decide) hd) (Nat.le_of_ble_eq_true rfl) (T_X12_isSheet (Nat.le_refl _) e1) rfl ?_
  refine bd_if_eq (pc := 4) (tgt := 29) hq dX12_sheet_4 (by decide) (fun _ hq => ?_) (fun _ hq => ?_)
  ·
    refine st_lesS (lv' := [some (.ref l0), none, none, none, none]) ⟨Or.inr rfl, Or.inl rfl, Or.inl rfl, Or.inl rfl, Or.inr rfl, trivial⟩ ?_
    exact T_X12_sheet_29 hd hq
  ·
    refine st_iload_n (pc := 7) dX12_sheet_7 rfl ?_
    refine bd_if_eq (pc := 8) (tgt := 35) hq dX12_sheet_8 (by decide) (fun _ hq => ?_) (fun _ hq => ?_)
    ·
      exact T_X12_sheet_35 hd hq
    ·
      refine st_iload_n (pc := 11) dX12_sheet_11 rfl ?_
      refine st_bipush (pc := 12) (v := (8 : Int32)) dX12_sheet_12 (by decide) ?_
      refine bd_icmp_eq (pc := 14) (tgt := 35) hq dX12_sheet_14 (by decide) (fun _ hq => ?_) (fun _ hq => ?_)
      ·
        exact T_X12_sheet_35 hd hq
      ·
        refine st_iload_n (pc := 17) dX12_sheet_17 rfl ?_
        refine st_bipush (pc := 18) (v := (16 : Int32)) dX12_sheet_18 (by decide) ?_
        refine bd_icmp_eq (pc := 20) (tgt := 35) hq dX12_sheet_20 (by decide) (fun _ hq => ?_) (fun _ hq => ?_)
        ·
          exact T_X12_sheet_35 hd hq
        ·
          refine st_iload_n (pc := 23) dX12_sheet_23 rfl ?_
          refine st_bipush (pc := 24) (v := (32 : Int32)) dX12_sheet_24 (by decide) ?_
          refine bd_icmp_eq (pc := 26) (tgt := 35) hq dX12_sheet_26 (by decide) (fun _ hq => ?_) (fun _ hq => ?_)
          ·
            exact T_X12_sheet_35 hd hq
          ·
            refine st_lesS (lv' := [some (.ref l0), none, none, none, none]) ⟨Or.inr rfl, Or.inl rfl, Or.inl rfl, Or.inl rfl, Or.inr rfl, trivial⟩ ?_
            exact T_X12_sheet_29 hd hq
-- HoleWaterModel.place(III)I
theorem dX12_place_0 : decode cX12_place 0 = .ok (.iload_n 1, 1) := by decide +kernel
theorem dX12_place_1 : decode cX12_place 1 = .ok (.invokestatic 169, 3) := by decide +kernel
theorem dX12_place_4 : decode cX12_place 4 = .ok (.ifCond .ne 9, 3) := by decide +kernel
theorem dX12_place_7 : decode cX12_place 7 = .ok (.aload_n 0, 1) := by decide +kernel
theorem dX12_place_8 : decode cX12_place 8 = .ok (.iconst 1, 1) := by decide +kernel
theorem dX12_place_9 : decode cX12_place 9 = .ok (.invokevirtual 80, 3) := by decide +kernel
theorem dX12_place_12 : decode cX12_place 12 = .ok (.ireturn, 1) := by decide +kernel
theorem dX12_place_13 : decode cX12_place 13 = .ok (.aload_n 0, 1) := by decide +kernel
theorem dX12_place_14 : decode cX12_place 14 = .ok (.getfield 55, 3) := by decide +kernel
theorem dX12_place_17 : decode cX12_place 17 = .ok (.iload_n 1, 1) := by decide +kernel
theorem dX12_place_18 : decode cX12_place 18 = .ok (.iaload, 1) := by decide +kernel
theorem dX12_place_19 : decode cX12_place 19 = .ok (.ifCond .ne 9, 3) := by decide +kernel
theorem dX12_place_22 : decode cX12_place 22 = .ok (.aload_n 0, 1) := by decide +kernel
theorem dX12_place_23 : decode cX12_place 23 = .ok (.iconst 2, 1) := by decide +kernel
theorem dX12_place_24 : decode cX12_place 24 = .ok (.invokevirtual 80, 3) := by decide +kernel
theorem dX12_place_27 : decode cX12_place 27 = .ok (.ireturn, 1) := by decide +kernel
theorem dX12_place_28 : decode cX12_place 28 = .ok (.iload_n 2, 1) := by decide +kernel
theorem dX12_place_29 : decode cX12_place 29 = .ok (.i2l, 1) := by decide +kernel
theorem dX12_place_30 : decode cX12_place 30 = .ok (.lconst 0, 1) := by decide +kernel
theorem dX12_place_31 : decode cX12_place 31 = .ok (.aload_n 0, 1) := by decide +kernel
theorem dX12_place_32 : decode cX12_place 32 = .ok (.getfield 58, 3) := by decide +kernel
theorem dX12_place_35 : decode cX12_place 35 = .ok (.iload_n 1, 1) := by decide +kernel
theorem dX12_place_36 : decode cX12_place 36 = .ok (.iaload, 1) := by decide +kernel
theorem dX12_place_37 : decode cX12_place 37 = .ok (.iconst 1, 1) := by decide +kernel
theorem dX12_place_38 : decode cX12_place 38 = .ok (.isub, 1) := by decide +kernel
theorem dX12_place_39 : decode cX12_place 39 = .ok (.i2l, 1) := by decide +kernel
theorem dX12_place_40 : decode cX12_place 40 = .ok (.invokestatic 65, 3) := by decide +kernel
theorem dX12_place_43 : decode cX12_place 43 = .ok (.ifCond .ne 9, 3) := by decide +kernel
theorem dX12_place_46 : decode cX12_place 46 = .ok (.aload_n 0, 1) := by decide +kernel
theorem dX12_place_47 : decode cX12_place 47 = .ok (.iconst 1, 1) := by decide +kernel
theorem dX12_place_48 : decode cX12_place 48 = .ok (.invokevirtual 80, 3) := by decide +kernel
theorem dX12_place_51 : decode cX12_place 51 = .ok (.ireturn, 1) := by decide +kernel
theorem dX12_place_52 : decode cX12_place 52 = .ok (.aload_n 0, 1) := by decide +kernel
theorem dX12_place_53 : decode cX12_place 53 = .ok (.getfield 61, 3) := by decide +kernel
theorem dX12_place_56 : decode cX12_place 56 = .ok (.bipush 24, 2) := by decide +kernel
theorem dX12_place_58 : decode cX12_place 58 = .ok (.iload_n 1, 1) := by decide +kernel
theorem dX12_place_59 : decode cX12_place 59 = .ok (.imul, 1) := by decide +kernel
theorem dX12_place_60 : decode cX12_place 60 = .ok (.iload_n 2, 1) := by decide +kernel
theorem dX12_place_61 : decode cX12_place 61 = .ok (.iadd, 1) := by decide +kernel
theorem dX12_place_62 : decode cX12_place 62 = .ok (.aload_n 0, 1) := by decide +kernel
theorem dX12_place_63 : decode cX12_place 63 = .ok (.getfield 55, 3) := by decide +kernel
theorem dX12_place_66 : decode cX12_place 66 = .ok (.iload_n 1, 1) := by decide +kernel
theorem dX12_place_67 : decode cX12_place 67 = .ok (.iaload, 1) := by decide +kernel
theorem dX12_place_68 : decode cX12_place 68 = .ok (.bipush 8, 2) := by decide +kernel
theorem dX12_place_70 : decode cX12_place 70 = .ok (.if_icmp .ne 8, 3) := by decide +kernel
theorem dX12_place_73 : decode cX12_place 73 = .ok (.iload_n 3, 1) := by decide +kernel
theorem dX12_place_74 : decode cX12_place 74 = .ok (.i2b, 1) := by decide +kernel
theorem dX12_place_75 : decode cX12_place 75 = .ok (.goto 20, 3) := by decide +kernel
theorem dX12_place_95 : decode cX12_place 95 = .ok (.iastore, 1) := by decide +kernel
theorem dX12_place_96 : decode cX12_place 96 = .ok (.iconst 1, 1) := by decide +kernel
theorem dX12_place_97 : decode cX12_place 97 = .ok (.ireturn, 1) := by decide +kernel
theorem dX12_place_78 : decode cX12_place 78 = .ok (.aload_n 0, 1) := by decide +kernel
theorem dX12_place_79 : decode cX12_place 79 = .ok (.getfield 55, 3) := by decide +kernel
theorem dX12_place_82 : decode cX12_place 82 = .ok (.iload_n 1, 1) := by decide +kernel
theorem dX12_place_83 : decode cX12_place 83 = .ok (.iaload, 1) := by decide +kernel
theorem dX12_place_84 : decode cX12_place 84 = .ok (.bipush 16, 2) := by decide +kernel
theorem dX12_place_86 : decode cX12_place 86 = .ok (.if_icmp .ne 8, 3) := by decide +kernel
theorem dX12_place_89 : decode cX12_place 89 = .ok (.iload_n 3, 1) := by decide +kernel
theorem dX12_place_90 : decode cX12_place 90 = .ok (.i2s, 1) := by decide +kernel
theorem dX12_place_91 : decode cX12_place 91 = .ok (.goto 4, 3) := by decide +kernel
theorem dX12_place_94 : decode cX12_place 94 = .ok (.iload_n 3, 1) := by decide +kernel
def D_X12_place (N : Nat) (h : mh_H) (l0 : Nat) (l1 : Int32) (l2 : Int32) (l3 : Int32) : Option (Int32 × mh_H) :=
  (D_X12_isSheet N h l1).bind fun q1 =>
  if q1.1 = 0 then (kO q1.2 12 l0 <|
  (D_X12_error N q1.2 l0 (1 : Int32)).bind fun q2 =>
  some (q2.1, q2.2))
  else ((gR q1.2 12 l0 27).bind fun v2 =>
  (aI q1.2 v2 l1).bind fun v3 =>
  if v3 = 0 then (kO q1.2 12 l0 <|
  (D_X12_error N q1.2 l0 (2 : Int32)).bind fun q4 =>
  some (q4.1, q4.2))
  else ((gR q1.2 12 l0 28).bind fun v4 =>
  (aI q1.2 v4 l1).bind fun v5 =>
  (D_X12_in N q1.2 l2.toInt64 (0 : Int64) ((v5 - (1 : Int32)).toInt64)).bind fun q6 =>
  if q6.1 = 0 then (kO q6.2 12 l0 <|
  (D_X12_error N q6.2 l0 (1 : Int32)).bind fun q7 =>
  some (q7.1, q7.2))
  else ((gR q6.2 12 l0 29).bind fun v7 =>
  (gR q6.2 12 l0 27).bind fun v8 =>
  (aI q6.2 v8 l1).bind fun v9 =>
  if v9 = (8 : Int32) then ((uI q6.2 v7 (((24 : Int32) * l1) + l2) l3.toInt8.toInt32).bind fun h10 =>
  some ((1 : Int32), h10))
  else ((gR q6.2 12 l0 27).bind fun v10 =>
  (aI q6.2 v10 l1).bind fun v11 =>
  if v11 = (16 : Int32) then ((uI q6.2 v7 (((24 : Int32) * l1) + l2) l3.toInt16.toInt32).bind fun h12 =>
  some ((1 : Int32), h12))
  else ((uI q6.2 v7 (((24 : Int32) * l1) + l2) l3).bind fun h12 =>
  some ((1 : Int32), h12))))))
set_option maxHeartbeats 4000000 in
set_option maxRecDepth 100000 in
theorem T_X12_place {P : mh_E → Prop} {N d : Nat} (hd : 3 ≤ d) {z : (Int32 × mh_H)} {h : mh_H} {l0 : Nat} {l1 : Int32} {l2 : Int32} {l3 : Int32} (hq : D_X12_place N h l0 l1 l2 l3 = some z) : mh_go P d mX12_place 0 [some (.ref l0), some (.int l1), some (.int l2), some (.int l3)] [] h (some (.int z.1)) z.2 := by
  unfold D_X12_place at hq
  refine st_iload_n (pc := 0) dX12_place_0 rfl ?_
  obtain ⟨q1, e1, hq⟩ := mh_ob hq
  refine st_invS (pc := 1) (Y := mX12_isSheet) (vs := [.int l1]) (rest := []) (st2 := [.int q1.1]) dX12_place_1 okX12_isSheet wd_1440 wd_1441 pdX12_isSheet rfl rfl rfl rfl (Nat.le_trans (by decide) hd) (Nat.le_of_ble_eq_true rfl) (T_X12_isSheet (Nat.le_refl _) e1) rfl ?_
  refine bd_if_ne (pc := 4) (tgt := 13) hq dX12_place_4 (by decide) (fun _ hq => ?_) (fun _ hq => ?_)
  ·
    refine st_aload_n (pc := 7) dX12_place_7 rfl ?_
    refine st_iconst (pc := 8) (v := (1 : Int32)) dX12_place_8 rfl ?_
    obtain ⟨⟨hbq2, hkq2⟩, hq⟩ := mh_oi hq
    obtain ⟨q2, e2, hq⟩ := mh_ob hq
    refine st_invV (pc := 9) (ci := 12) (vs := [.int (1 : Int32)]) (rest := []) (st2 := [.int q2.1]) dX12_place_9 okX12_error (by decide) hkq2 hbq2 wd_1274 wd_1276 wp_37 pdX12_error rfl rfl rfl rfl (Nat.le_trans (by decide) hd) (Nat.le_of_ble_eq_true rfl) (T_X12_error (Nat.le_refl _) e2) rfl ?_
    exact bd_iret (pc := 12) hq dX12_place_12 rfl
  ·
    refine st_aload_n (pc := 13) dX12_place_13 rfl ?_
    refine bd_getr (pc := 14) hq dX12_place_14 fl_12_55_12 rfl (fun v2 hq => ?_)
    refine st_iload_n (pc := 17) dX12_place_17 rfl ?_
    refine bd_iald (pc := 18) hq dX12_place_18 (fun v3 hq => ?_)
    refine bd_if_ne (pc := 19) (tgt := 28) hq dX12_place_19 (by decide) (fun _ hq => ?_) (fun _ hq => ?_)
    ·
      refine st_aload_n (pc := 22) dX12_place_22 rfl ?_
      refine st_iconst (pc := 23) (v := (2 : Int32)) dX12_place_23 rfl ?_
      obtain ⟨⟨hbq4, hkq4⟩, hq⟩ := mh_oi hq
      obtain ⟨q4, e4, hq⟩ := mh_ob hq
      refine st_invV (pc := 24) (ci := 12) (vs := [.int (2 : Int32)]) (rest := []) (st2 := [.int q4.1]) dX12_place_24 okX12_error (by decide) hkq4 hbq4 wd_1274 wd_1276 wp_37 pdX12_error rfl rfl rfl rfl (Nat.le_trans (by decide) hd) (Nat.le_of_ble_eq_true rfl) (T_X12_error (Nat.le_refl _) e4) rfl ?_
      exact bd_iret (pc := 27) hq dX12_place_27 rfl
    ·
      refine st_iload_n (pc := 28) dX12_place_28 rfl ?_
      refine st_i2l (pc := 29) dX12_place_29 ?_
      refine st_lconst (pc := 30) (v := 0) dX12_place_30 rfl ?_
      refine st_aload_n (pc := 31) dX12_place_31 rfl ?_
      refine bd_getr (pc := 32) hq dX12_place_32 fl_12_58_12 rfl (fun v4 hq => ?_)
      refine st_iload_n (pc := 35) dX12_place_35 rfl ?_
      refine bd_iald (pc := 36) hq dX12_place_36 (fun v5 hq => ?_)
      refine st_iconst (pc := 37) (v := (1 : Int32)) dX12_place_37 rfl ?_
      refine st_isub (pc := 38) dX12_place_38 ?_
      refine st_i2l (pc := 39) dX12_place_39 ?_
      obtain ⟨q6, e6, hq⟩ := mh_ob hq
      refine st_invS (pc := 40) (Y := mX12_in) (vs := [.long l2.toInt64, .long (0 : Int64), .long ((v5 - (1 : Int32)).toInt64)]) (rest := []) (st2 := [.int q6.1]) dX12_place_40 okX12_in wd_1270 wd_1271 pdX12_in rfl rfl rfl rfl (Nat.le_trans (by decide) hd) (Nat.le_of_ble_eq_true rfl) (T_X12_in (Nat.le_refl _) e6) rfl ?_
      refine bd_if_ne (pc := 43) (tgt := 52) hq dX12_place_43 (by decide) (fun _ hq => ?_) (fun _ hq => ?_)
      ·
        refine st_aload_n (pc := 46) dX12_place_46 rfl ?_
        refine st_iconst (pc := 47) (v := (1 : Int32)) dX12_place_47 rfl ?_
        obtain ⟨⟨hbq7, hkq7⟩, hq⟩ := mh_oi hq
        obtain ⟨q7, e7, hq⟩ := mh_ob hq
        refine st_invV (pc := 48) (ci := 12) (vs := [.int (1 : Int32)]) (rest := []) (st2 := [.int q7.1]) dX12_place_48 okX12_error (by decide) hkq7 hbq7 wd_1274 wd_1276 wp_37 pdX12_error rfl rfl rfl rfl (Nat.le_trans (by decide) hd) (Nat.le_of_ble_eq_true rfl) (T_X12_error (Nat.le_refl _) e7) rfl ?_
        exact bd_iret (pc := 51) hq dX12_place_51 rfl
      ·
        refine st_aload_n (pc := 52) dX12_place_52 rfl ?_
        refine bd_getr (pc := 53) hq dX12_place_53 fl_12_61_12 rfl (fun v7 hq => ?_)
        refine st_bipush (pc := 56) (v := (24 : Int32)) dX12_place_56 (by decide) ?_
        refine st_iload_n (pc := 58) dX12_place_58 rfl ?_
        refine st_imul (pc := 59) dX12_place_59 ?_
        refine st_iload_n (pc := 60) dX12_place_60 rfl ?_
        refine st_iadd (pc := 61) dX12_place_61 ?_
        refine st_aload_n (pc := 62) dX12_place_62 rfl ?_
        refine bd_getr (pc := 63) hq dX12_place_63 fl_12_55_12 rfl (fun v8 hq => ?_)
        refine st_iload_n (pc := 66) dX12_place_66 rfl ?_
        refine bd_iald (pc := 67) hq dX12_place_67 (fun v9 hq => ?_)
        refine st_bipush (pc := 68) (v := (8 : Int32)) dX12_place_68 (by decide) ?_
        refine bd_icmp_ne (pc := 70) (tgt := 78) hq dX12_place_70 (by decide) (fun _ hq => ?_) (fun _ hq => ?_)
        ·
          refine st_iload_n (pc := 73) dX12_place_73 rfl ?_
          refine st_i2b (pc := 74) dX12_place_74 ?_
          refine st_goto (pc := 75) (tgt := 95) dX12_place_75 (by decide) ?_
          refine bd_iast (pc := 95) hq dX12_place_95 (fun h10 hq => ?_)
          refine st_iconst (pc := 96) (v := (1 : Int32)) dX12_place_96 rfl ?_
          exact bd_iret (pc := 97) hq dX12_place_97 rfl
        ·
          refine st_aload_n (pc := 78) dX12_place_78 rfl ?_
          refine bd_getr (pc := 79) hq dX12_place_79 fl_12_55_12 rfl (fun v10 hq => ?_)
          refine st_iload_n (pc := 82) dX12_place_82 rfl ?_
          refine bd_iald (pc := 83) hq dX12_place_83 (fun v11 hq => ?_)
          refine st_bipush (pc := 84) (v := (16 : Int32)) dX12_place_84 (by decide) ?_
          refine bd_icmp_ne (pc := 86) (tgt := 94) hq dX12_place_86 (by decide) (fun _ hq => ?_) (fun _ hq => ?_)
          ·
            refine st_iload_n (pc := 89) dX12_place_89 rfl ?_
            refine st_i2s (pc := 90) dX12_place_90 ?_
            refine st_goto (pc := 91) (tgt := 95) dX12_place_91 (by decide) ?_
            refine bd_iast (pc := 95) hq dX12_place_95 (fun h12 hq => ?_)
            refine st_iconst (pc := 96) (v := (1 : Int32)) dX12_place_96 rfl ?_
            exact bd_iret (pc := 97) hq dX12_place_97 rfl
          ·
            refine st_iload_n (pc := 94) dX12_place_94 rfl ?_
            refine bd_iast (pc := 95) hq dX12_place_95 (fun h12 hq => ?_)
            refine st_iconst (pc := 96) (v := (1 : Int32)) dX12_place_96 rfl ?_
            exact bd_iret (pc := 97) hq dX12_place_97 rfl
-- HoleWaterModel.move(IIIII)I
theorem dX12_move_14 : decode cX12_move 14 = .ok (.aload_n 0, 1) := by decide +kernel
theorem dX12_move_15 : decode cX12_move 15 = .ok (.iconst 1, 1) := by decide +kernel
theorem dX12_move_16 : decode cX12_move 16 = .ok (.invokevirtual 80, 3) := by decide +kernel
theorem dX12_move_19 : decode cX12_move 19 = .ok (.ireturn, 1) := by decide +kernel
theorem dX12_move_38 : decode cX12_move 38 = .ok (.aload_n 0, 1) := by decide +kernel
theorem dX12_move_39 : decode cX12_move 39 = .ok (.iconst 2, 1) := by decide +kernel
theorem dX12_move_40 : decode cX12_move 40 = .ok (.invokevirtual 80, 3) := by decide +kernel
theorem dX12_move_43 : decode cX12_move 43 = .ok (.ireturn, 1) := by decide +kernel
theorem dX12_move_106 : decode cX12_move 106 = .ok (.aload_n 0, 1) := by decide +kernel
theorem dX12_move_107 : decode cX12_move 107 = .ok (.iconst 1, 1) := by decide +kernel
theorem dX12_move_108 : decode cX12_move 108 = .ok (.invokevirtual 80, 3) := by decide +kernel
theorem dX12_move_111 : decode cX12_move 111 = .ok (.ireturn, 1) := by decide +kernel
theorem dX12_move_157 : decode cX12_move 157 = .ok (.istore 8, 2) := by decide +kernel
theorem dX12_move_159 : decode cX12_move 159 = .ok (.aload_n 0, 1) := by decide +kernel
theorem dX12_move_160 : decode cX12_move 160 = .ok (.getfield 61, 3) := by decide +kernel
theorem dX12_move_163 : decode cX12_move 163 = .ok (.bipush 24, 2) := by decide +kernel
theorem dX12_move_165 : decode cX12_move 165 = .ok (.iload_n 3, 1) := by decide +kernel
theorem dX12_move_166 : decode cX12_move 166 = .ok (.imul, 1) := by decide +kernel
theorem dX12_move_167 : decode cX12_move 167 = .ok (.iload 4, 2) := by decide +kernel
theorem dX12_move_169 : decode cX12_move 169 = .ok (.iadd, 1) := by decide +kernel
theorem dX12_move_170 : decode cX12_move 170 = .ok (.iload 8, 2) := by decide +kernel
theorem dX12_move_172 : decode cX12_move 172 = .ok (.iadd, 1) := by decide +kernel
theorem dX12_move_173 : decode cX12_move 173 = .ok (.aload_n 0, 1) := by decide +kernel
theorem dX12_move_174 : decode cX12_move 174 = .ok (.getfield 61, 3) := by decide +kernel
theorem dX12_move_177 : decode cX12_move 177 = .ok (.bipush 24, 2) := by decide +kernel
theorem dX12_move_179 : decode cX12_move 179 = .ok (.iload_n 1, 1) := by decide +kernel
theorem dX12_move_180 : decode cX12_move 180 = .ok (.imul, 1) := by decide +kernel
theorem dX12_move_181 : decode cX12_move 181 = .ok (.iload_n 2, 1) := by decide +kernel
theorem dX12_move_182 : decode cX12_move 182 = .ok (.iadd, 1) := by decide +kernel
theorem dX12_move_183 : decode cX12_move 183 = .ok (.iload 8, 2) := by decide +kernel
theorem dX12_move_185 : decode cX12_move 185 = .ok (.iadd, 1) := by decide +kernel
theorem dX12_move_186 : decode cX12_move 186 = .ok (.iaload, 1) := by decide +kernel
theorem dX12_move_187 : decode cX12_move 187 = .ok (.iastore, 1) := by decide +kernel
theorem dX12_move_188 : decode cX12_move 188 = .ok (.iinc 7 1, 3) := by decide +kernel
theorem dX12_move_191 : decode cX12_move 191 = .ok (.goto (-58), 3) := by decide +kernel
theorem dX12_move_133 : decode cX12_move 133 = .ok (.iload 7, 2) := by decide +kernel
theorem dX12_move_135 : decode cX12_move 135 = .ok (.iload 5, 2) := by decide +kernel
theorem dX12_move_137 : decode cX12_move 137 = .ok (.if_icmp .ge 57, 3) := by decide +kernel
theorem dX12_move_194 : decode cX12_move 194 = .ok (.iload 5, 2) := by decide +kernel
theorem dX12_move_196 : decode cX12_move 196 = .ok (.ireturn, 1) := by decide +kernel
theorem dX12_move_140 : decode cX12_move 140 = .ok (.iload 6, 2) := by decide +kernel
theorem dX12_move_142 : decode cX12_move 142 = .ok (.ifCond .eq 13, 3) := by decide +kernel
theorem dX12_move_155 : decode cX12_move 155 = .ok (.iload 7, 2) := by decide +kernel
theorem dX12_move_145 : decode cX12_move 145 = .ok (.iload 5, 2) := by decide +kernel
theorem dX12_move_147 : decode cX12_move 147 = .ok (.iconst 1, 1) := by decide +kernel
theorem dX12_move_148 : decode cX12_move 148 = .ok (.isub, 1) := by decide +kernel
theorem dX12_move_149 : decode cX12_move 149 = .ok (.iload 7, 2) := by decide +kernel
theorem dX12_move_151 : decode cX12_move 151 = .ok (.isub, 1) := by decide +kernel
theorem dX12_move_152 : decode cX12_move 152 = .ok (.goto 5, 3) := by decide +kernel
theorem dX12_move_128 : decode cX12_move 128 = .ok (.istore 6, 2) := by decide +kernel
theorem dX12_move_130 : decode cX12_move 130 = .ok (.iconst 0, 1) := by decide +kernel
theorem dX12_move_131 : decode cX12_move 131 = .ok (.istore 7, 2) := by decide +kernel
theorem dX12_move_127 : decode cX12_move 127 = .ok (.iconst 0, 1) := by decide +kernel
theorem dX12_move_0 : decode cX12_move 0 = .ok (.iload_n 1, 1) := by decide +kernel
theorem dX12_move_1 : decode cX12_move 1 = .ok (.invokestatic 169, 3) := by decide +kernel
theorem dX12_move_4 : decode cX12_move 4 = .ok (.ifCond .eq 10, 3) := by decide +kernel
theorem dX12_move_7 : decode cX12_move 7 = .ok (.iload_n 3, 1) := by decide +kernel
theorem dX12_move_8 : decode cX12_move 8 = .ok (.invokestatic 169, 3) := by decide +kernel
theorem dX12_move_11 : decode cX12_move 11 = .ok (.ifCond .ne 9, 3) := by decide +kernel
theorem dX12_move_20 : decode cX12_move 20 = .ok (.aload_n 0, 1) := by decide +kernel
theorem dX12_move_21 : decode cX12_move 21 = .ok (.getfield 55, 3) := by decide +kernel
theorem dX12_move_24 : decode cX12_move 24 = .ok (.iload_n 1, 1) := by decide +kernel
theorem dX12_move_25 : decode cX12_move 25 = .ok (.iaload, 1) := by decide +kernel
theorem dX12_move_26 : decode cX12_move 26 = .ok (.ifCond .eq 12, 3) := by decide +kernel
theorem dX12_move_29 : decode cX12_move 29 = .ok (.aload_n 0, 1) := by decide +kernel
theorem dX12_move_30 : decode cX12_move 30 = .ok (.getfield 55, 3) := by decide +kernel
theorem dX12_move_33 : decode cX12_move 33 = .ok (.iload_n 3, 1) := by decide +kernel
theorem dX12_move_34 : decode cX12_move 34 = .ok (.iaload, 1) := by decide +kernel
theorem dX12_move_35 : decode cX12_move 35 = .ok (.ifCond .ne 9, 3) := by decide +kernel
theorem dX12_move_44 : decode cX12_move 44 = .ok (.aload_n 0, 1) := by decide +kernel
theorem dX12_move_45 : decode cX12_move 45 = .ok (.getfield 55, 3) := by decide +kernel
theorem dX12_move_48 : decode cX12_move 48 = .ok (.iload_n 1, 1) := by decide +kernel
theorem dX12_move_49 : decode cX12_move 49 = .ok (.iaload, 1) := by decide +kernel
theorem dX12_move_50 : decode cX12_move 50 = .ok (.aload_n 0, 1) := by decide +kernel
theorem dX12_move_51 : decode cX12_move 51 = .ok (.getfield 55, 3) := by decide +kernel
theorem dX12_move_54 : decode cX12_move 54 = .ok (.iload_n 3, 1) := by decide +kernel
theorem dX12_move_55 : decode cX12_move 55 = .ok (.iaload, 1) := by decide +kernel
theorem dX12_move_56 : decode cX12_move 56 = .ok (.if_icmp .eq 9, 3) := by decide +kernel
theorem dX12_move_65 : decode cX12_move 65 = .ok (.iload 5, 2) := by decide +kernel
theorem dX12_move_67 : decode cX12_move 67 = .ok (.ifCond .lt 39, 3) := by decide +kernel
theorem dX12_move_70 : decode cX12_move 70 = .ok (.iload_n 2, 1) := by decide +kernel
theorem dX12_move_71 : decode cX12_move 71 = .ok (.ifCond .lt 35, 3) := by decide +kernel
theorem dX12_move_74 : decode cX12_move 74 = .ok (.iload 4, 2) := by decide +kernel
theorem dX12_move_76 : decode cX12_move 76 = .ok (.ifCond .lt 30, 3) := by decide +kernel
theorem dX12_move_79 : decode cX12_move 79 = .ok (.iload 5, 2) := by decide +kernel
theorem dX12_move_81 : decode cX12_move 81 = .ok (.aload_n 0, 1) := by decide +kernel
theorem dX12_move_82 : decode cX12_move 82 = .ok (.getfield 58, 3) := by decide +kernel
theorem dX12_move_85 : decode cX12_move 85 = .ok (.iload_n 1, 1) := by decide +kernel
theorem dX12_move_86 : decode cX12_move 86 = .ok (.iaload, 1) := by decide +kernel
theorem dX12_move_87 : decode cX12_move 87 = .ok (.iload_n 2, 1) := by decide +kernel
theorem dX12_move_88 : decode cX12_move 88 = .ok (.isub, 1) := by decide +kernel
theorem dX12_move_89 : decode cX12_move 89 = .ok (.if_icmp .gt 17, 3) := by decide +kernel
theorem dX12_move_92 : decode cX12_move 92 = .ok (.iload 5, 2) := by decide +kernel
theorem dX12_move_94 : decode cX12_move 94 = .ok (.aload_n 0, 1) := by decide +kernel
theorem dX12_move_95 : decode cX12_move 95 = .ok (.getfield 58, 3) := by decide +kernel
theorem dX12_move_98 : decode cX12_move 98 = .ok (.iload_n 3, 1) := by decide +kernel
theorem dX12_move_99 : decode cX12_move 99 = .ok (.iaload, 1) := by decide +kernel
theorem dX12_move_100 : decode cX12_move 100 = .ok (.iload 4, 2) := by decide +kernel
theorem dX12_move_102 : decode cX12_move 102 = .ok (.isub, 1) := by decide +kernel
theorem dX12_move_103 : decode cX12_move 103 = .ok (.if_icmp .le 9, 3) := by decide +kernel
theorem dX12_move_112 : decode cX12_move 112 = .ok (.iload_n 1, 1) := by decide +kernel
theorem dX12_move_113 : decode cX12_move 113 = .ok (.iload_n 3, 1) := by decide +kernel
theorem dX12_move_114 : decode cX12_move 114 = .ok (.if_icmp .ne 13, 3) := by decide +kernel
theorem dX12_move_117 : decode cX12_move 117 = .ok (.iload_n 2, 1) := by decide +kernel
theorem dX12_move_118 : decode cX12_move 118 = .ok (.iload 4, 2) := by decide +kernel
theorem dX12_move_120 : decode cX12_move 120 = .ok (.if_icmp .ge 7, 3) := by decide +kernel
theorem dX12_move_123 : decode cX12_move 123 = .ok (.iconst 1, 1) := by decide +kernel
theorem dX12_move_124 : decode cX12_move 124 = .ok (.goto 4, 3) := by decide +kernel
theorem dX12_move_59 : decode cX12_move 59 = .ok (.aload_n 0, 1) := by decide +kernel
theorem dX12_move_60 : decode cX12_move 60 = .ok (.iconst 5, 1) := by decide +kernel
theorem dX12_move_61 : decode cX12_move 61 = .ok (.invokevirtual 80, 3) := by decide +kernel
theorem dX12_move_64 : decode cX12_move 64 = .ok (.ireturn, 1) := by decide +kernel
def D_X12_move_14 (N : Nat) (h : mh_H) (l0 : Nat) : Option (Int32 × mh_H) :=
  kO h 12 l0 <|
  (D_X12_error N h l0 (1 : Int32)).bind fun q1 =>
  some (q1.1, q1.2)
set_option maxHeartbeats 4000000 in
set_option maxRecDepth 100000 in
theorem T_X12_move_14 {P : mh_E → Prop} {N d : Nat} (hd : 3 ≤ d) {z : (Int32 × mh_H)} {h : mh_H} {l0 : Nat} (hq : D_X12_move_14 N h l0 = some z) : mh_go P d mX12_move 14 [some (.ref l0), none, none, none, none, none, none, none, none] [] h (some (.int z.1)) z.2 := by
  unfold D_X12_move_14 at hq
  refine st_aload_n (pc := 14) dX12_move_14 rfl ?_
  refine st_iconst (pc := 15) (v := (1 : Int32)) dX12_move_15 rfl ?_
  obtain ⟨⟨hbq1, hkq1⟩, hq⟩ := mh_oi hq
  obtain ⟨q1, e1, hq⟩ := mh_ob hq
  refine st_invV (pc := 16) (ci := 12) (vs := [.int (1 : Int32)]) (rest := []) (st2 := [.int q1.1]) dX12_move_16 okX12_error (by decide) hkq1 hbq1 wd_1274 wd_1276 wp_37 pdX12_error rfl rfl rfl rfl (Nat.le_trans (by decide) hd) (Nat.le_of_ble_eq_true rfl) (T_X12_error (Nat.le_refl _) e1) rfl ?_
  exact bd_iret (pc := 19) hq dX12_move_19 rfl
def D_X12_move_38 (N : Nat) (h : mh_H) (l0 : Nat) : Option (Int32 × mh_H) :=
  kO h 12 l0 <|
  (D_X12_error N h l0 (2 : Int32)).bind fun q1 =>
  some (q1.1, q1.2)
set_option maxHeartbeats 4000000 in
set_option maxRecDepth 100000 in
theorem T_X12_move_38 {P : mh_E → Prop} {N d : Nat} (hd : 3 ≤ d) {z : (Int32 × mh_H)} {h : mh_H} {l0 : Nat} (hq : D_X12_move_38 N h l0 = some z) : mh_go P d mX12_move 38 [some (.ref l0), none, none, none, none, none, none, none, none] [] h (some (.int z.1)) z.2 := by
  unfold D_X12_move_38 at hq
  refine st_aload_n (pc := 38) dX12_move_38 rfl ?_
  refine st_iconst (pc := 39) (v := (2 : Int32)) dX12_move_39 rfl ?_
  obtain ⟨⟨hbq1, hkq1⟩, hq⟩ := mh_oi hq
  obtain ⟨q1, e1, hq⟩ := mh_ob hq
  refine st_invV (pc := 40) (ci := 12) (vs := [.int (2 : Int32)]) (rest := []) (st2 := [.int q1.1]) dX12_move_40 okX12_error (by decide) hkq1 hbq1 wd_1274 wd_1276 wp_37 pdX12_error rfl rfl rfl rfl (Nat.le_trans (by decide) hd) (Nat.le_of_ble_eq_true rfl) (T_X12_error (Nat.le_refl _) e1) rfl ?_
  exact bd_iret (pc := 43) hq dX12_move_43 rfl
def D_X12_move_106 (N : Nat) (h : mh_H) (l0 : Nat) : Option (Int32 × mh_H) :=
  kO h 12 l0 <|
  (D_X12_error N h l0 (1 : Int32)).bind fun q1 =>
  some (q1.1, q1.2)
set_option maxHeartbeats 4000000 in
set_option maxRecDepth 100000 in
theorem T_X12_move_106 {P : mh_E → Prop} {N d : Nat} (hd : 3 ≤ d) {z : (Int32 × mh_H)} {h : mh_H} {l0 : Nat} (hq : D_X12_move_106 N h l0 = some z) : mh_go P d mX12_move 106 [some (.ref l0), none, none, none, none, none, none, none, none] [] h (some (.int z.1)) z.2 := by
  unfold D_X12_move_106 at hq
  refine st_aload_n (pc := 106) dX12_move_106 rfl ?_
  refine st_iconst (pc := 107) (v := (1 : Int32)) dX12_move_107 rfl ?_
  obtain ⟨⟨hbq1, hkq1⟩, hq⟩ := mh_oi hq
  obtain ⟨q1, e1, hq⟩ := mh_ob hq
  refine st_invV (pc := 108) (ci := 12) (vs := [.int (1 : Int32)]) (rest := []) (st2 := [.int q1.1]) dX12_move_108 okX12_error (by decide) hkq1 hbq1 wd_1274 wd_1276 wp_37 pdX12_error rfl rfl rfl rfl (Nat.le_trans (by decide) hd) (Nat.le_of_ble_eq_true rfl) (T_X12_error (Nat.le_refl _) e1) rfl ?_
  exact bd_iret (pc := 111) hq dX12_move_111 rfl
def D_X12_move_157 (N : Nat) (k133 : mh_H → Nat → Int32 → Int32 → Int32 → Int32 → Int32 → Int32 → Int32 → Option (Int32 × mh_H)) (h : mh_H) (l0 : Nat) (l1 : Int32) (l2 : Int32) (l3 : Int32) (l4 : Int32) (l5 : Int32) (l6 : Int32) (l7 : Int32) (s0 : Int32) : Option (Int32 × mh_H) :=
  (gR h 12 l0 29).bind fun v1 =>
  (gR h 12 l0 29).bind fun v2 =>
  (aI h v2 ((((24 : Int32) * l1) + l2) + s0)).bind fun v3 =>
  (uI h v1 ((((24 : Int32) * l3) + l4) + s0) v3).bind fun h4 =>
  k133 h4 l0 l1 l2 l3 l4 l5 l6 (l7 + Int32.ofInt (1))
set_option maxHeartbeats 4000000 in
set_option maxRecDepth 100000 in
theorem T_X12_move_157 {P : mh_E → Prop} {N d : Nat} (hd : 3 ≤ d) {z : (Int32 × mh_H)} {k133 : mh_H → Nat → Int32 → Int32 → Int32 → Int32 → Int32 → Int32 → Int32 → Option (Int32 × mh_H)} (hk133 : ∀ (h : mh_H) (l0 : Nat) (l1 : Int32) (l2 : Int32) (l3 : Int32) (l4 : Int32) (l5 : Int32) (l6 : Int32) (l7 : Int32), k133 h l0 l1 l2 l3 l4 l5 l6 l7 = some z → mh_go P d mX12_move 133 [some (.ref l0), some (.int l1), some (.int l2), some (.int l3), some (.int l4), some (.int l5), some (.int l6), some (.int l7), none] [] h (some (.int z.1)) z.2) {h : mh_H} {l0 : Nat} {l1 : Int32} {l2 : Int32} {l3 : Int32} {l4 : Int32} {l5 : Int32} {l6 : Int32} {l7 : Int32} {s0 : Int32} (hq : D_X12_move_157 N k133 h l0 l1 l2 l3 l4 l5 l6 l7 s0 = some z) : mh_go P d mX12_move 157 [some (.ref l0), some (.int l1), some (.int l2), some (.int l3), some (.int l4), some (.int l5), some (.int l6), some (.int l7), none] [.int s0] h (some (.int z.1)) z.2 := by
  unfold D_X12_move_157 at hq
  refine st_istore (pc := 157) (lv' := [some (.ref l0), some (.int l1), some (.int l2), some (.int l3), some (.int l4), some (.int l5), some (.int l6), some (.int l7), some (.int s0)]) dX12_move_157 rfl (by decide) rfl ?_
  refine st_aload_n (pc := 159) dX12_move_159 rfl ?_
  refine bd_getr (pc := 160) hq dX12_move_160 fl_12_61_12 rfl (fun v1 hq => ?_)
  refine st_bipush (pc := 163) (v := (24 : Int32)) dX12_move_163 (by decide) ?_
  refine st_iload_n (pc := 165) dX12_move_165 rfl ?_
  refine st_imul (pc := 166) dX12_move_166 ?_
  refine st_iload (pc := 167) dX12_move_167 rfl ?_
  refine st_iadd (pc := 169) dX12_move_169 ?_
  refine st_iload (pc := 170) dX12_move_170 rfl ?_
  refine st_iadd (pc := 172) dX12_move_172 ?_
  refine st_aload_n (pc := 173) dX12_move_173 rfl ?_
  refine bd_getr (pc := 174) hq dX12_move_174 fl_12_61_12 rfl (fun v2 hq => ?_)
  refine st_bipush (pc := 177) (v := (24 : Int32)) dX12_move_177 (by decide) ?_
  refine st_iload_n (pc := 179) dX12_move_179 rfl ?_
  refine st_imul (pc := 180) dX12_move_180 ?_
  refine st_iload_n (pc := 181) dX12_move_181 rfl ?_
  refine st_iadd (pc := 182) dX12_move_182 ?_
  refine st_iload (pc := 183) dX12_move_183 rfl ?_
  refine st_iadd (pc := 185) dX12_move_185 ?_
  refine bd_iald (pc := 186) hq dX12_move_186 (fun v3 hq => ?_)
  refine bd_iast (pc := 187) hq dX12_move_187 (fun h4 hq => ?_)
  refine st_iinc (pc := 188) (lv' := [some (.ref l0), some (.int l1), some (.int l2), some (.int l3), some (.int l4), some (.int l5), some (.int l6), some (.int (l7 + Int32.ofInt (1))), some (.int s0)]) dX12_move_188 rfl rfl (by decide) rfl ?_
  refine st_goto (pc := 191) (tgt := 133) dX12_move_191 (by decide) ?_
  refine st_lesS (lv' := [some (.ref l0), some (.int l1), some (.int l2), some (.int l3), some (.int l4), some (.int l5), some (.int l6), some (.int (l7 + Int32.ofInt (1))), none]) ⟨Or.inr rfl, Or.inr rfl, Or.inr rfl, Or.inr rfl, Or.inr rfl, Or.inr rfl, Or.inr rfl, Or.inr rfl, Or.inl rfl, trivial⟩ ?_
  exact hk133 _ _ _ _ _ _ _ _ _ hq
def D_X12_move_133 (N : Nat) : Nat → mh_H → Nat → Int32 → Int32 → Int32 → Int32 → Int32 → Int32 → Int32 → Option (Int32 × mh_H)
  | 0, _, _, _, _, _, _, _, _, _ => none
  | F + 1, h, l0, l1, l2, l3, l4, l5, l6, l7 =>
    if l5 ≤ l7 then (some (l5, h))
    else (if l6 = 0 then (D_X12_move_157 N (D_X12_move_133 N F) h l0 l1 l2 l3 l4 l5 l6 l7 l7)
    else (D_X12_move_157 N (D_X12_move_133 N F) h l0 l1 l2 l3 l4 l5 l6 l7 ((l5 - (1 : Int32)) - l7)))
set_option maxHeartbeats 4000000 in
set_option maxRecDepth 100000 in
theorem T_X12_move_133 {P : mh_E → Prop} {N d : Nat} (hd : 3 ≤ d) {z : (Int32 × mh_H)} : ∀ (F : Nat) (h : mh_H) (l0 : Nat) (l1 : Int32) (l2 : Int32) (l3 : Int32) (l4 : Int32) (l5 : Int32) (l6 : Int32) (l7 : Int32), D_X12_move_133 N F h l0 l1 l2 l3 l4 l5 l6 l7 = some z → mh_go P d mX12_move 133 [some (.ref l0), some (.int l1), some (.int l2), some (.int l3), some (.int l4), some (.int l5), some (.int l6), some (.int l7), none] [] h (some (.int z.1)) z.2 := by
  intro F
  induction F with
  | zero => intro h l0 l1 l2 l3 l4 l5 l6 l7 hq; rw [D_X12_move_133] at hq; cases hq
  | succ F ih =>
    intro h l0 l1 l2 l3 l4 l5 l6 l7 hq
    rw [D_X12_move_133] at hq
    refine st_iload (pc := 133) dX12_move_133 rfl ?_
    refine st_iload (pc := 135) dX12_move_135 rfl ?_
    refine bd_icmp_ge (pc := 137) (tgt := 194) hq dX12_move_137 (by decide) (fun _ hq => ?_) (fun _ hq => ?_)
    ·
      refine st_iload (pc := 194) dX12_move_194 rfl ?_
      exact bd_iret (pc := 196) hq dX12_move_196 rfl
    ·
      refine st_iload (pc := 140) dX12_move_140 rfl ?_
      refine bd_if_eq (pc := 142) (tgt := 155) hq dX12_move_142 (by decide) (fun _ hq => ?_) (fun _ hq => ?_)
      ·
        refine st_iload (pc := 155) dX12_move_155 rfl ?_
        exact T_X12_move_157 hd ih hq
      ·
        refine st_iload (pc := 145) dX12_move_145 rfl ?_
        refine st_iconst (pc := 147) (v := (1 : Int32)) dX12_move_147 rfl ?_
        refine st_isub (pc := 148) dX12_move_148 ?_
        refine st_iload (pc := 149) dX12_move_149 rfl ?_
        refine st_isub (pc := 151) dX12_move_151 ?_
        refine st_goto (pc := 152) (tgt := 157) dX12_move_152 (by decide) ?_
        exact T_X12_move_157 hd ih hq
def D_X12_move_128 (N : Nat) (h : mh_H) (l0 : Nat) (l1 : Int32) (l2 : Int32) (l3 : Int32) (l4 : Int32) (l5 : Int32) (s0 : Int32) : Option (Int32 × mh_H) :=
  D_X12_move_133 N N h l0 l1 l2 l3 l4 l5 s0 (0 : Int32)
set_option maxHeartbeats 4000000 in
set_option maxRecDepth 100000 in
theorem T_X12_move_128 {P : mh_E → Prop} {N d : Nat} (hd : 3 ≤ d) {z : (Int32 × mh_H)} {h : mh_H} {l0 : Nat} {l1 : Int32} {l2 : Int32} {l3 : Int32} {l4 : Int32} {l5 : Int32} {s0 : Int32} (hq : D_X12_move_128 N h l0 l1 l2 l3 l4 l5 s0 = some z) : mh_go P d mX12_move 128 [some (.ref l0), some (.int l1), some (.int l2), some (.int l3), some (.int l4), some (.int l5), none, none, none] [.int s0] h (some (.int z.1)) z.2 := by
  unfold D_X12_move_128 at hq
  refine st_istore (pc := 128) (lv' := [some (.ref l0), some (.int l1), some (.int l2), some (.int l3), some (.int l4), some (.int l5), some (.int s0), none, none]) dX12_move_128 rfl (by decide) rfl ?_
  refine st_iconst (pc := 130) (v := (0 : Int32)) dX12_move_130 rfl ?_
  refine st_istore (pc := 131) (lv' := [some (.ref l0), some (.int l1), some (.int l2), some (.int l3), some (.int l4), some (.int l5), some (.int s0), some (.int (0 : Int32)), none]) dX12_move_131 rfl (by decide) rfl ?_
  exact T_X12_move_133 hd N _ _ _ _ _ _ _ _ _ hq
def D_X12_move_127 (N : Nat) (h : mh_H) (l0 : Nat) (l1 : Int32) (l2 : Int32) (l3 : Int32) (l4 : Int32) (l5 : Int32) : Option (Int32 × mh_H) :=
  D_X12_move_128 N h l0 l1 l2 l3 l4 l5 (0 : Int32)
set_option maxHeartbeats 4000000 in
set_option maxRecDepth 100000 in
theorem T_X12_move_127 {P : mh_E → Prop} {N d : Nat} (hd : 3 ≤ d) {z : (Int32 × mh_H)} {h : mh_H} {l0 : Nat} {l1 : Int32} {l2 : Int32} {l3 : Int32} {l4 : Int32} {l5 : Int32} (hq : D_X12_move_127 N h l0 l1 l2 l3 l4 l5 = some z) : mh_go P d mX12_move 127 [some (.ref l0), some (.int l1), some (.int l2), some (.int l3), some (.int l4), some (.int l5), none, none, none] [] h (some (.int z.1)) z.2 := by
  unfold D_X12_move_127 at hq
  refine st_iconst (pc := 127) (v := (0 : Int32)) dX12_move_127 rfl ?_
  exact T_X12_move_128 hd hq
def D_X12_move (N : Nat) (h : mh_H) (l0 : Nat) (l1 : Int32) (l2 : Int32) (l3 : Int32) (l4 : Int32) (l5 : Int32) : Option (Int32 × mh_H) :=
  (D_X12_isSheet N h l1).bind fun q1 =>
  if q1.1 = 0 then (D_X12_move_14 N q1.2 l0)
  else ((D_X12_isSheet N q1.2 l3).bind fun q2 =>
  if q2.1 = 0 then (D_X12_move_14 N q2.2 l0)
  else ((gR q2.2 12 l0 27).bind fun v3 =>
  (aI q2.2 v3 l1).bind fun v4 =>
  if v4 = 0 then (D_X12_move_38 N q2.2 l0)
  else ((gR q2.2 12 l0 27).bind fun v5 =>
  (aI q2.2 v5 l3).bind fun v6 =>
  if v6 = 0 then (D_X12_move_38 N q2.2 l0)
  else ((gR q2.2 12 l0 27).bind fun v7 =>
  (aI q2.2 v7 l1).bind fun v8 =>
  (gR q2.2 12 l0 27).bind fun v9 =>
  (aI q2.2 v9 l3).bind fun v10 =>
  if v8 = v10 then (if l5 < 0 then (D_X12_move_106 N q2.2 l0)
  else (if l2 < 0 then (D_X12_move_106 N q2.2 l0)
  else (if l4 < 0 then (D_X12_move_106 N q2.2 l0)
  else ((gR q2.2 12 l0 28).bind fun v11 =>
  (aI q2.2 v11 l1).bind fun v12 =>
  if (v12 - l2) < l5 then (D_X12_move_106 N q2.2 l0)
  else ((gR q2.2 12 l0 28).bind fun v13 =>
  (aI q2.2 v13 l3).bind fun v14 =>
  if l5 ≤ (v14 - l4) then (if l1 = l3 then (if l4 ≤ l2 then (D_X12_move_127 N q2.2 l0 l1 l2 l3 l4 l5)
  else (D_X12_move_128 N q2.2 l0 l1 l2 l3 l4 l5 (1 : Int32)))
  else (D_X12_move_127 N q2.2 l0 l1 l2 l3 l4 l5))
  else (D_X12_move_106 N q2.2 l0))))))
  else (kO q2.2 12 l0 <|
  (D_X12_error N q2.2 l0 (5 : Int32)).bind fun q11 =>
  some (q11.1, q11.2))))))
set_option maxHeartbeats 4000000 in
set_option maxRecDepth 100000 in
theorem T_X12_move {P : mh_E → Prop} {N d : Nat} (hd : 3 ≤ d) {z : (Int32 × mh_H)} {h : mh_H} {l0 : Nat} {l1 : Int32} {l2 : Int32} {l3 : Int32} {l4 : Int32} {l5 : Int32} (hq : D_X12_move N h l0 l1 l2 l3 l4 l5 = some z) : mh_go P d mX12_move 0 [some (.ref l0), some (.int l1), some (.int l2), some (.int l3), some (.int l4), some (.int l5), none, none, none] [] h (some (.int z.1)) z.2 := by
  unfold D_X12_move at hq
  refine st_iload_n (pc := 0) dX12_move_0 rfl ?_
  obtain ⟨q1, e1, hq⟩ := mh_ob hq
  refine st_invS (pc := 1) (Y := mX12_isSheet) (vs := [.int l1]) (rest := []) (st2 := [.int q1.1]) dX12_move_1 okX12_isSheet wd_1440 wd_1441 pdX12_isSheet rfl rfl rfl rfl (Nat.le_trans (by decide) hd) (Nat.le_of_ble_eq_true rfl) (T_X12_isSheet (Nat.le_refl _) e1) rfl ?_
  refine bd_if_eq (pc := 4) (tgt := 14) hq dX12_move_4 (by decide) (fun _ hq => ?_) (fun _ hq => ?_)
  ·
    refine st_lesS (lv' := [some (.ref l0), none, none, none, none, none, none, none, none]) ⟨Or.inr rfl, Or.inl rfl, Or.inl rfl, Or.inl rfl, Or.inl rfl, Or.inl rfl, Or.inr rfl, Or.inr rfl, Or.inr rfl, trivial⟩ ?_
    exact T_X12_move_14 hd hq
  ·
    refine st_iload_n (pc := 7) dX12_move_7 rfl ?_
    obtain ⟨q2, e2, hq⟩ := mh_ob hq
    refine st_invS (pc := 8) (Y := mX12_isSheet) (vs := [.int l3]) (rest := []) (st2 := [.int q2.1]) dX12_move_8 okX12_isSheet wd_1440 wd_1441 pdX12_isSheet rfl rfl rfl rfl (Nat.le_trans (by decide) hd) (Nat.le_of_ble_eq_true rfl) (T_X12_isSheet (Nat.le_refl _) e2) rfl ?_
    refine bd_if_ne (pc := 11) (tgt := 20) hq dX12_move_11 (by decide) (fun _ hq => ?_) (fun _ hq => ?_)
    ·
      refine st_lesS (lv' := [some (.ref l0), none, none, none, none, none, none, none, none]) ⟨Or.inr rfl, Or.inl rfl, Or.inl rfl, Or.inl rfl, Or.inl rfl, Or.inl rfl, Or.inr rfl, Or.inr rfl, Or.inr rfl, trivial⟩ ?_
      exact T_X12_move_14 hd hq
    ·
      refine st_aload_n (pc := 20) dX12_move_20 rfl ?_
      refine bd_getr (pc := 21) hq dX12_move_21 fl_12_55_12 rfl (fun v3 hq => ?_)
      refine st_iload_n (pc := 24) dX12_move_24 rfl ?_
      refine bd_iald (pc := 25) hq dX12_move_25 (fun v4 hq => ?_)
      refine bd_if_eq (pc := 26) (tgt := 38) hq dX12_move_26 (by decide) (fun _ hq => ?_) (fun _ hq => ?_)
      ·
        refine st_lesS (lv' := [some (.ref l0), none, none, none, none, none, none, none, none]) ⟨Or.inr rfl, Or.inl rfl, Or.inl rfl, Or.inl rfl, Or.inl rfl, Or.inl rfl, Or.inr rfl, Or.inr rfl, Or.inr rfl, trivial⟩ ?_
        exact T_X12_move_38 hd hq
      ·
        refine st_aload_n (pc := 29) dX12_move_29 rfl ?_
        refine bd_getr (pc := 30) hq dX12_move_30 fl_12_55_12 rfl (fun v5 hq => ?_)
        refine st_iload_n (pc := 33) dX12_move_33 rfl ?_
        refine bd_iald (pc := 34) hq dX12_move_34 (fun v6 hq => ?_)
        refine bd_if_ne (pc := 35) (tgt := 44) hq dX12_move_35 (by decide) (fun _ hq => ?_) (fun _ hq => ?_)
        ·
          refine st_lesS (lv' := [some (.ref l0), none, none, none, none, none, none, none, none]) ⟨Or.inr rfl, Or.inl rfl, Or.inl rfl, Or.inl rfl, Or.inl rfl, Or.inl rfl, Or.inr rfl, Or.inr rfl, Or.inr rfl, trivial⟩ ?_
          exact T_X12_move_38 hd hq
        ·
          refine st_aload_n (pc := 44) dX12_move_44 rfl ?_
          refine bd_getr (pc := 45) hq dX12_move_45 fl_12_55_12 rfl (fun v7 hq => ?_)
          refine st_iload_n (pc := 48) dX12_move_48 rfl ?_
          refine bd_iald (pc := 49) hq dX12_move_49 (fun v8 hq => ?_)
          refine st_aload_n (pc := 50) dX12_move_50 rfl ?_
          refine bd_getr (pc := 51) hq dX12_move_51 fl_12_55_12 rfl (fun v9 hq => ?_)
          refine st_iload_n (pc := 54) dX12_move_54 rfl ?_
          refine bd_iald (pc := 55) hq dX12_move_55 (fun v10 hq => ?_)
          refine bd_icmp_eq (pc := 56) (tgt := 65) hq dX12_move_56 (by decide) (fun _ hq => ?_) (fun _ hq => ?_)
          ·
            refine st_iload (pc := 65) dX12_move_65 rfl ?_
            refine bd_if_lt (pc := 67) (tgt := 106) hq dX12_move_67 (by decide) (fun _ hq => ?_) (fun _ hq => ?_)
            ·
              refine st_lesS (lv' := [some (.ref l0), none, none, none, none, none, none, none, none]) ⟨Or.inr rfl, Or.inl rfl, Or.inl rfl, Or.inl rfl, Or.inl rfl, Or.inl rfl, Or.inr rfl, Or.inr rfl, Or.inr rfl, trivial⟩ ?_
              exact T_X12_move_106 hd hq
            ·
              refine st_iload_n (pc := 70) dX12_move_70 rfl ?_
              refine bd_if_lt (pc := 71) (tgt := 106) hq dX12_move_71 (by decide) (fun _ hq => ?_) (fun _ hq => ?_)
              ·
                refine st_lesS (lv' := [some (.ref l0), none, none, none, none, none, none, none, none]) ⟨Or.inr rfl, Or.inl rfl, Or.inl rfl, Or.inl rfl, Or.inl rfl, Or.inl rfl, Or.inr rfl, Or.inr rfl, Or.inr rfl, trivial⟩ ?_
                exact T_X12_move_106 hd hq
              ·
                refine st_iload (pc := 74) dX12_move_74 rfl ?_
                refine bd_if_lt (pc := 76) (tgt := 106) hq dX12_move_76 (by decide) (fun _ hq => ?_) (fun _ hq => ?_)
                ·
                  refine st_lesS (lv' := [some (.ref l0), none, none, none, none, none, none, none, none]) ⟨Or.inr rfl, Or.inl rfl, Or.inl rfl, Or.inl rfl, Or.inl rfl, Or.inl rfl, Or.inr rfl, Or.inr rfl, Or.inr rfl, trivial⟩ ?_
                  exact T_X12_move_106 hd hq
                ·
                  refine st_iload (pc := 79) dX12_move_79 rfl ?_
                  refine st_aload_n (pc := 81) dX12_move_81 rfl ?_
                  refine bd_getr (pc := 82) hq dX12_move_82 fl_12_58_12 rfl (fun v11 hq => ?_)
                  refine st_iload_n (pc := 85) dX12_move_85 rfl ?_
                  refine bd_iald (pc := 86) hq dX12_move_86 (fun v12 hq => ?_)
                  refine st_iload_n (pc := 87) dX12_move_87 rfl ?_
                  refine st_isub (pc := 88) dX12_move_88 ?_
                  refine bd_icmp_gt (pc := 89) (tgt := 106) hq dX12_move_89 (by decide) (fun _ hq => ?_) (fun _ hq => ?_)
                  ·
                    refine st_lesS (lv' := [some (.ref l0), none, none, none, none, none, none, none, none]) ⟨Or.inr rfl, Or.inl rfl, Or.inl rfl, Or.inl rfl, Or.inl rfl, Or.inl rfl, Or.inr rfl, Or.inr rfl, Or.inr rfl, trivial⟩ ?_
                    exact T_X12_move_106 hd hq
                  ·
                    refine st_iload (pc := 92) dX12_move_92 rfl ?_
                    refine st_aload_n (pc := 94) dX12_move_94 rfl ?_
                    refine bd_getr (pc := 95) hq dX12_move_95 fl_12_58_12 rfl (fun v13 hq => ?_)
                    refine st_iload_n (pc := 98) dX12_move_98 rfl ?_
                    refine bd_iald (pc := 99) hq dX12_move_99 (fun v14 hq => ?_)
                    refine st_iload (pc := 100) dX12_move_100 rfl ?_
                    refine st_isub (pc := 102) dX12_move_102 ?_
                    refine bd_icmp_le (pc := 103) (tgt := 112) hq dX12_move_103 (by decide) (fun _ hq => ?_) (fun _ hq => ?_)
                    ·
                      refine st_iload_n (pc := 112) dX12_move_112 rfl ?_
                      refine st_iload_n (pc := 113) dX12_move_113 rfl ?_
                      refine bd_icmp_ne (pc := 114) (tgt := 127) hq dX12_move_114 (by decide) (fun _ hq => ?_) (fun _ hq => ?_)
                      ·
                        refine st_iload_n (pc := 117) dX12_move_117 rfl ?_
                        refine st_iload (pc := 118) dX12_move_118 rfl ?_
                        refine bd_icmp_ge (pc := 120) (tgt := 127) hq dX12_move_120 (by decide) (fun _ hq => ?_) (fun _ hq => ?_)
                        ·
                          exact T_X12_move_127 hd hq
                        ·
                          refine st_iconst (pc := 123) (v := (1 : Int32)) dX12_move_123 rfl ?_
                          refine st_goto (pc := 124) (tgt := 128) dX12_move_124 (by decide) ?_
                          exact T_X12_move_128 hd hq
                      ·
                        exact T_X12_move_127 hd hq
                    ·
                      refine st_lesS (lv' := [some (.ref l0), none, none, none, none, none, none, none, none]) ⟨Or.inr rfl, Or.inl rfl, Or.inl rfl, Or.inl rfl, Or.inl rfl, Or.inl rfl, Or.inr rfl, Or.inr rfl, Or.inr rfl, trivial⟩ ?_
                      exact T_X12_move_106 hd hq
          ·
            refine st_aload_n (pc := 59) dX12_move_59 rfl ?_
            refine st_iconst (pc := 60) (v := (5 : Int32)) dX12_move_60 rfl ?_
            obtain ⟨⟨hbq11, hkq11⟩, hq⟩ := mh_oi hq
            obtain ⟨q11, e11, hq⟩ := mh_ob hq
            refine st_invV (pc := 61) (ci := 12) (vs := [.int (5 : Int32)]) (rest := []) (st2 := [.int q11.1]) dX12_move_61 okX12_error (by decide) hkq11 hbq11 wd_1274 wd_1276 wp_37 pdX12_error rfl rfl rfl rfl (Nat.le_trans (by decide) hd) (Nat.le_of_ble_eq_true rfl) (T_X12_error (Nat.le_refl _) e11) rfl ?_
            exact bd_iret (pc := 64) hq dX12_move_64 rfl
-- HoleWaterModel.image()I
theorem dX12_image_2 : decode cX12_image 2 = .ok (.iload_n 1, 1) := by decide +kernel
theorem dX12_image_3 : decode cX12_image 3 = .ok (.sipush 7794, 3) := by decide +kernel
theorem dX12_image_6 : decode cX12_image 6 = .ok (.if_icmp .ge 21, 3) := by decide +kernel
theorem dX12_image_27 : decode cX12_image 27 = .ok (.aload_n 0, 1) := by decide +kernel
theorem dX12_image_28 : decode cX12_image 28 = .ok (.dup, 1) := by decide +kernel
theorem dX12_image_29 : decode cX12_image 29 = .ok (.getfield 349, 3) := by decide +kernel
theorem dX12_image_32 : decode cX12_image 32 = .ok (.iconst 1, 1) := by decide +kernel
theorem dX12_image_33 : decode cX12_image 33 = .ok (.iadd, 1) := by decide +kernel
theorem dX12_image_34 : decode cX12_image 34 = .ok (.putfield 349, 3) := by decide +kernel
theorem dX12_image_37 : decode cX12_image 37 = .ok (.aload_n 0, 1) := by decide +kernel
theorem dX12_image_38 : decode cX12_image 38 = .ok (.getfield 349, 3) := by decide +kernel
theorem dX12_image_41 : decode cX12_image 41 = .ok (.ireturn, 1) := by decide +kernel
theorem dX12_image_9 : decode cX12_image 9 = .ok (.aload_n 0, 1) := by decide +kernel
theorem dX12_image_10 : decode cX12_image 10 = .ok (.getfield 13, 3) := by decide +kernel
theorem dX12_image_13 : decode cX12_image 13 = .ok (.iload_n 1, 1) := by decide +kernel
theorem dX12_image_14 : decode cX12_image 14 = .ok (.aload_n 0, 1) := by decide +kernel
theorem dX12_image_15 : decode cX12_image 15 = .ok (.getfield 9, 3) := by decide +kernel
theorem dX12_image_18 : decode cX12_image 18 = .ok (.iload_n 1, 1) := by decide +kernel
theorem dX12_image_19 : decode cX12_image 19 = .ok (.iaload, 1) := by decide +kernel
theorem dX12_image_20 : decode cX12_image 20 = .ok (.iastore, 1) := by decide +kernel
theorem dX12_image_21 : decode cX12_image 21 = .ok (.iinc 1 1, 3) := by decide +kernel
theorem dX12_image_24 : decode cX12_image 24 = .ok (.goto (-22), 3) := by decide +kernel
theorem dX12_image_0 : decode cX12_image 0 = .ok (.iconst 0, 1) := by decide +kernel
theorem dX12_image_1 : decode cX12_image 1 = .ok (.istore_n 1, 1) := by decide +kernel
def D_X12_image_2 (N : Nat) : Nat → mh_H → Nat → Int32 → Option (Int32 × mh_H)
  | 0, _, _, _ => none
  | F + 1, h, l0, l1 =>
    if (7794 : Int32) ≤ l1 then ((gI h 12 l0 3).bind fun v1 =>
    (pI h 12 l0 3 (v1 + (1 : Int32))).bind fun h2 =>
    (gI h2 12 l0 3).bind fun v3 =>
    some (v3, h2))
    else ((gR h 12 l0 1).bind fun v1 =>
    (gR h 12 l0 0).bind fun v2 =>
    (aI h v2 l1).bind fun v3 =>
    (uI h v1 l1 v3).bind fun h4 =>
    (D_X12_image_2 N F) h4 l0 (l1 + Int32.ofInt (1)))
set_option maxHeartbeats 4000000 in
set_option maxRecDepth 100000 in
theorem T_X12_image_2 {P : mh_E → Prop} {N d : Nat} (hd : 1 ≤ d) {z : (Int32 × mh_H)} : ∀ (F : Nat) (h : mh_H) (l0 : Nat) (l1 : Int32), D_X12_image_2 N F h l0 l1 = some z → mh_go P d mX12_image 2 [some (.ref l0), some (.int l1)] [] h (some (.int z.1)) z.2 := by
  intro F
  induction F with
  | zero => intro h l0 l1 hq; rw [D_X12_image_2] at hq; cases hq
  | succ F ih =>
    intro h l0 l1 hq
    rw [D_X12_image_2] at hq
    refine st_iload_n (pc := 2) dX12_image_2 rfl ?_
    refine st_sipush (pc := 3) (v := (7794 : Int32)) dX12_image_3 (by decide) ?_
    refine bd_icmp_ge (pc := 6) (tgt := 27) hq dX12_image_6 (by decide) (fun _ hq => ?_) (fun _ hq => ?_)
    ·
      refine st_aload_n (pc := 27) dX12_image_27 rfl ?_
      refine st_dup (pc := 28) dX12_image_28 rfl ?_
      refine bd_geti (pc := 29) hq dX12_image_29 fl_12_349_12 rfl (fun v1 hq => ?_)
      refine st_iconst (pc := 32) (v := (1 : Int32)) dX12_image_32 rfl ?_
      refine st_iadd (pc := 33) dX12_image_33 ?_
      refine bd_puti (pc := 34) hq dX12_image_34 fl_12_349_12 (Or.inl rfl) rfl (fun h2 hq => ?_)
      refine st_aload_n (pc := 37) dX12_image_37 rfl ?_
      refine bd_geti (pc := 38) hq dX12_image_38 fl_12_349_12 rfl (fun v3 hq => ?_)
      exact bd_iret (pc := 41) hq dX12_image_41 rfl
    ·
      refine st_aload_n (pc := 9) dX12_image_9 rfl ?_
      refine bd_getr (pc := 10) hq dX12_image_10 fl_12_13_12 rfl (fun v1 hq => ?_)
      refine st_iload_n (pc := 13) dX12_image_13 rfl ?_
      refine st_aload_n (pc := 14) dX12_image_14 rfl ?_
      refine bd_getr (pc := 15) hq dX12_image_15 fl_12_9_12 rfl (fun v2 hq => ?_)
      refine st_iload_n (pc := 18) dX12_image_18 rfl ?_
      refine bd_iald (pc := 19) hq dX12_image_19 (fun v3 hq => ?_)
      refine bd_iast (pc := 20) hq dX12_image_20 (fun h4 hq => ?_)
      refine st_iinc (pc := 21) (lv' := [some (.ref l0), some (.int (l1 + Int32.ofInt (1)))]) dX12_image_21 rfl rfl (by decide) rfl ?_
      refine st_goto (pc := 24) (tgt := 2) dX12_image_24 (by decide) ?_
      exact ih _ _ _ hq
def D_X12_image (N : Nat) (h : mh_H) (l0 : Nat) : Option (Int32 × mh_H) :=
  D_X12_image_2 N N h l0 (0 : Int32)
set_option maxHeartbeats 4000000 in
set_option maxRecDepth 100000 in
theorem T_X12_image {P : mh_E → Prop} {N d : Nat} (hd : 1 ≤ d) {z : (Int32 × mh_H)} {h : mh_H} {l0 : Nat} (hq : D_X12_image N h l0 = some z) : mh_go P d mX12_image 0 [some (.ref l0), none] [] h (some (.int z.1)) z.2 := by
  unfold D_X12_image at hq
  refine st_iconst (pc := 0) (v := (0 : Int32)) dX12_image_0 rfl ?_
  refine st_istore_n (pc := 1) (lv' := [some (.ref l0), some (.int (0 : Int32))]) dX12_image_1 rfl (by decide) rfl ?_
  exact T_X12_image_2 hd N _ _ _ hq
-- HoleWaterModel.restore()I
theorem dX12_restore_15 : decode cX12_restore 15 = .ok (.iload_n 1, 1) := by decide +kernel
theorem dX12_restore_16 : decode cX12_restore 16 = .ok (.sipush 7794, 3) := by decide +kernel
theorem dX12_restore_19 : decode cX12_restore 19 = .ok (.if_icmp .ge 21, 3) := by decide +kernel
theorem dX12_restore_40 : decode cX12_restore 40 = .ok (.aload_n 0, 1) := by decide +kernel
theorem dX12_restore_41 : decode cX12_restore 41 = .ok (.getfield 9, 3) := by decide +kernel
theorem dX12_restore_44 : decode cX12_restore 44 = .ok (.iconst 0, 1) := by decide +kernel
theorem dX12_restore_45 : decode cX12_restore 45 = .ok (.iaload, 1) := by decide +kernel
theorem dX12_restore_46 : decode cX12_restore 46 = .ok (.ireturn, 1) := by decide +kernel
theorem dX12_restore_22 : decode cX12_restore 22 = .ok (.aload_n 0, 1) := by decide +kernel
theorem dX12_restore_23 : decode cX12_restore 23 = .ok (.getfield 9, 3) := by decide +kernel
theorem dX12_restore_26 : decode cX12_restore 26 = .ok (.iload_n 1, 1) := by decide +kernel
theorem dX12_restore_27 : decode cX12_restore 27 = .ok (.aload_n 0, 1) := by decide +kernel
theorem dX12_restore_28 : decode cX12_restore 28 = .ok (.getfield 13, 3) := by decide +kernel
theorem dX12_restore_31 : decode cX12_restore 31 = .ok (.iload_n 1, 1) := by decide +kernel
theorem dX12_restore_32 : decode cX12_restore 32 = .ok (.iaload, 1) := by decide +kernel
theorem dX12_restore_33 : decode cX12_restore 33 = .ok (.iastore, 1) := by decide +kernel
theorem dX12_restore_34 : decode cX12_restore 34 = .ok (.iinc 1 1, 3) := by decide +kernel
theorem dX12_restore_37 : decode cX12_restore 37 = .ok (.goto (-22), 3) := by decide +kernel
theorem dX12_restore_0 : decode cX12_restore 0 = .ok (.aload_n 0, 1) := by decide +kernel
theorem dX12_restore_1 : decode cX12_restore 1 = .ok (.getfield 349, 3) := by decide +kernel
theorem dX12_restore_4 : decode cX12_restore 4 = .ok (.ifCond .ne 9, 3) := by decide +kernel
theorem dX12_restore_7 : decode cX12_restore 7 = .ok (.aload_n 0, 1) := by decide +kernel
theorem dX12_restore_8 : decode cX12_restore 8 = .ok (.iconst 2, 1) := by decide +kernel
theorem dX12_restore_9 : decode cX12_restore 9 = .ok (.invokevirtual 80, 3) := by decide +kernel
theorem dX12_restore_12 : decode cX12_restore 12 = .ok (.ireturn, 1) := by decide +kernel
theorem dX12_restore_13 : decode cX12_restore 13 = .ok (.iconst 0, 1) := by decide +kernel
theorem dX12_restore_14 : decode cX12_restore 14 = .ok (.istore_n 1, 1) := by decide +kernel
def D_X12_restore_15 (N : Nat) : Nat → mh_H → Nat → Int32 → Option (Int32 × mh_H)
  | 0, _, _, _ => none
  | F + 1, h, l0, l1 =>
    if (7794 : Int32) ≤ l1 then ((gR h 12 l0 0).bind fun v1 =>
    (aI h v1 (0 : Int32)).bind fun v2 =>
    some (v2, h))
    else ((gR h 12 l0 0).bind fun v1 =>
    (gR h 12 l0 1).bind fun v2 =>
    (aI h v2 l1).bind fun v3 =>
    (uI h v1 l1 v3).bind fun h4 =>
    (D_X12_restore_15 N F) h4 l0 (l1 + Int32.ofInt (1)))
set_option maxHeartbeats 4000000 in
set_option maxRecDepth 100000 in
theorem T_X12_restore_15 {P : mh_E → Prop} {N d : Nat} (hd : 2 ≤ d) {z : (Int32 × mh_H)} : ∀ (F : Nat) (h : mh_H) (l0 : Nat) (l1 : Int32), D_X12_restore_15 N F h l0 l1 = some z → mh_go P d mX12_restore 15 [some (.ref l0), some (.int l1)] [] h (some (.int z.1)) z.2 := by
  intro F
  induction F with
  | zero => intro h l0 l1 hq; rw [D_X12_restore_15] at hq; cases hq
  | succ F ih =>
    intro h l0 l1 hq
    rw [D_X12_restore_15] at hq
    refine st_iload_n (pc := 15) dX12_restore_15 rfl ?_
    refine st_sipush (pc := 16) (v := (7794 : Int32)) dX12_restore_16 (by decide) ?_
    refine bd_icmp_ge (pc := 19) (tgt := 40) hq dX12_restore_19 (by decide) (fun _ hq => ?_) (fun _ hq => ?_)
    ·
      refine st_aload_n (pc := 40) dX12_restore_40 rfl ?_
      refine bd_getr (pc := 41) hq dX12_restore_41 fl_12_9_12 rfl (fun v1 hq => ?_)
      refine st_iconst (pc := 44) (v := (0 : Int32)) dX12_restore_44 rfl ?_
      refine bd_iald (pc := 45) hq dX12_restore_45 (fun v2 hq => ?_)
      exact bd_iret (pc := 46) hq dX12_restore_46 rfl
    ·
      refine st_aload_n (pc := 22) dX12_restore_22 rfl ?_
      refine bd_getr (pc := 23) hq dX12_restore_23 fl_12_9_12 rfl (fun v1 hq => ?_)
      refine st_iload_n (pc := 26) dX12_restore_26 rfl ?_
      refine st_aload_n (pc := 27) dX12_restore_27 rfl ?_
      refine bd_getr (pc := 28) hq dX12_restore_28 fl_12_13_12 rfl (fun v2 hq => ?_)
      refine st_iload_n (pc := 31) dX12_restore_31 rfl ?_
      refine bd_iald (pc := 32) hq dX12_restore_32 (fun v3 hq => ?_)
      refine bd_iast (pc := 33) hq dX12_restore_33 (fun h4 hq => ?_)
      refine st_iinc (pc := 34) (lv' := [some (.ref l0), some (.int (l1 + Int32.ofInt (1)))]) dX12_restore_34 rfl rfl (by decide) rfl ?_
      refine st_goto (pc := 37) (tgt := 15) dX12_restore_37 (by decide) ?_
      exact ih _ _ _ hq
def D_X12_restore (N : Nat) (h : mh_H) (l0 : Nat) : Option (Int32 × mh_H) :=
  (gI h 12 l0 3).bind fun v1 =>
  if v1 = 0 then (kO h 12 l0 <|
  (D_X12_error N h l0 (2 : Int32)).bind fun q2 =>
  some (q2.1, q2.2))
  else (D_X12_restore_15 N N h l0 (0 : Int32))
set_option maxHeartbeats 4000000 in
set_option maxRecDepth 100000 in
theorem T_X12_restore {P : mh_E → Prop} {N d : Nat} (hd : 2 ≤ d) {z : (Int32 × mh_H)} {h : mh_H} {l0 : Nat} (hq : D_X12_restore N h l0 = some z) : mh_go P d mX12_restore 0 [some (.ref l0), none] [] h (some (.int z.1)) z.2 := by
  unfold D_X12_restore at hq
  refine st_aload_n (pc := 0) dX12_restore_0 rfl ?_
  refine bd_geti (pc := 1) hq dX12_restore_1 fl_12_349_12 rfl (fun v1 hq => ?_)
  refine bd_if_ne (pc := 4) (tgt := 13) hq dX12_restore_4 (by decide) (fun _ hq => ?_) (fun _ hq => ?_)
  ·
    refine st_aload_n (pc := 7) dX12_restore_7 rfl ?_
    refine st_iconst (pc := 8) (v := (2 : Int32)) dX12_restore_8 rfl ?_
    obtain ⟨⟨hbq2, hkq2⟩, hq⟩ := mh_oi hq
    obtain ⟨q2, e2, hq⟩ := mh_ob hq
    refine st_invV (pc := 9) (ci := 12) (vs := [.int (2 : Int32)]) (rest := []) (st2 := [.int q2.1]) dX12_restore_9 okX12_error (by decide) hkq2 hbq2 wd_1274 wd_1276 wp_37 pdX12_error rfl rfl rfl rfl (Nat.le_trans (by decide) hd) (Nat.le_of_ble_eq_true rfl) (T_X12_error (Nat.le_refl _) e2) rfl ?_
    exact bd_iret (pc := 12) hq dX12_restore_12 rfl
  ·
    refine st_iconst (pc := 13) (v := (0 : Int32)) dX12_restore_13 rfl ?_
    refine st_istore_n (pc := 14) (lv' := [some (.ref l0), some (.int (0 : Int32))]) dX12_restore_14 rfl (by decide) rfl ?_
    exact T_X12_restore_15 hd N _ _ _ hq
-- HoleWaterModel.tell(I)I
theorem dX12_tell_0 : decode cX12_tell 0 = .ok (.aload_n 0, 1) := by decide +kernel
theorem dX12_tell_1 : decode cX12_tell 1 = .ok (.getfield 9, 3) := by decide +kernel
theorem dX12_tell_4 : decode cX12_tell 4 = .ok (.bipush 7, 2) := by decide +kernel
theorem dX12_tell_6 : decode cX12_tell 6 = .ok (.iaload, 1) := by decide +kernel
theorem dX12_tell_7 : decode cX12_tell 7 = .ok (.bipush 24, 2) := by decide +kernel
theorem dX12_tell_9 : decode cX12_tell 9 = .ok (.if_icmp .ne 9, 3) := by decide +kernel
theorem dX12_tell_12 : decode cX12_tell 12 = .ok (.aload_n 0, 1) := by decide +kernel
theorem dX12_tell_13 : decode cX12_tell 13 = .ok (.iconst 4, 1) := by decide +kernel
theorem dX12_tell_14 : decode cX12_tell 14 = .ok (.invokevirtual 80, 3) := by decide +kernel
theorem dX12_tell_17 : decode cX12_tell 17 = .ok (.ireturn, 1) := by decide +kernel
theorem dX12_tell_18 : decode cX12_tell 18 = .ok (.aload_n 0, 1) := by decide +kernel
theorem dX12_tell_19 : decode cX12_tell 19 = .ok (.getfield 9, 3) := by decide +kernel
theorem dX12_tell_22 : decode cX12_tell 22 = .ok (.sipush 7770, 3) := by decide +kernel
theorem dX12_tell_25 : decode cX12_tell 25 = .ok (.aload_n 0, 1) := by decide +kernel
theorem dX12_tell_26 : decode cX12_tell 26 = .ok (.getfield 9, 3) := by decide +kernel
theorem dX12_tell_29 : decode cX12_tell 29 = .ok (.bipush 7, 2) := by decide +kernel
theorem dX12_tell_31 : decode cX12_tell 31 = .ok (.iaload, 1) := by decide +kernel
theorem dX12_tell_32 : decode cX12_tell 32 = .ok (.iadd, 1) := by decide +kernel
theorem dX12_tell_33 : decode cX12_tell 33 = .ok (.iload_n 1, 1) := by decide +kernel
theorem dX12_tell_34 : decode cX12_tell 34 = .ok (.iastore, 1) := by decide +kernel
theorem dX12_tell_35 : decode cX12_tell 35 = .ok (.aload_n 0, 1) := by decide +kernel
theorem dX12_tell_36 : decode cX12_tell 36 = .ok (.getfield 9, 3) := by decide +kernel
theorem dX12_tell_39 : decode cX12_tell 39 = .ok (.bipush 7, 2) := by decide +kernel
theorem dX12_tell_41 : decode cX12_tell 41 = .ok (.dup2, 1) := by decide +kernel
theorem dX12_tell_42 : decode cX12_tell 42 = .ok (.iaload, 1) := by decide +kernel
theorem dX12_tell_43 : decode cX12_tell 43 = .ok (.iconst 1, 1) := by decide +kernel
theorem dX12_tell_44 : decode cX12_tell 44 = .ok (.iadd, 1) := by decide +kernel
theorem dX12_tell_45 : decode cX12_tell 45 = .ok (.iastore, 1) := by decide +kernel
theorem dX12_tell_46 : decode cX12_tell 46 = .ok (.aload_n 0, 1) := by decide +kernel
theorem dX12_tell_47 : decode cX12_tell 47 = .ok (.getfield 9, 3) := by decide +kernel
theorem dX12_tell_50 : decode cX12_tell 50 = .ok (.bipush 7, 2) := by decide +kernel
theorem dX12_tell_52 : decode cX12_tell 52 = .ok (.iaload, 1) := by decide +kernel
theorem dX12_tell_53 : decode cX12_tell 53 = .ok (.ireturn, 1) := by decide +kernel
def D_X12_tell (N : Nat) (h : mh_H) (l0 : Nat) (l1 : Int32) : Option (Int32 × mh_H) :=
  (gR h 12 l0 0).bind fun v1 =>
  (aI h v1 (7 : Int32)).bind fun v2 =>
  if v2 = (24 : Int32) then (kO h 12 l0 <|
  (D_X12_error N h l0 (4 : Int32)).bind fun q3 =>
  some (q3.1, q3.2))
  else ((gR h 12 l0 0).bind fun v3 =>
  (gR h 12 l0 0).bind fun v4 =>
  (aI h v4 (7 : Int32)).bind fun v5 =>
  (uI h v3 ((7770 : Int32) + v5) l1).bind fun h6 =>
  (gR h6 12 l0 0).bind fun v7 =>
  (aI h6 v7 (7 : Int32)).bind fun v8 =>
  (uI h6 v7 (7 : Int32) (v8 + (1 : Int32))).bind fun h9 =>
  (gR h9 12 l0 0).bind fun v10 =>
  (aI h9 v10 (7 : Int32)).bind fun v11 =>
  some (v11, h9))
set_option maxHeartbeats 4000000 in
set_option maxRecDepth 100000 in
theorem T_X12_tell {P : mh_E → Prop} {N d : Nat} (hd : 2 ≤ d) {z : (Int32 × mh_H)} {h : mh_H} {l0 : Nat} {l1 : Int32} (hq : D_X12_tell N h l0 l1 = some z) : mh_go P d mX12_tell 0 [some (.ref l0), some (.int l1)] [] h (some (.int z.1)) z.2 := by
  unfold D_X12_tell at hq
  refine st_aload_n (pc := 0) dX12_tell_0 rfl ?_
  refine bd_getr (pc := 1) hq dX12_tell_1 fl_12_9_12 rfl (fun v1 hq => ?_)
  refine st_bipush (pc := 4) (v := (7 : Int32)) dX12_tell_4 (by decide) ?_
  refine bd_iald (pc := 6) hq dX12_tell_6 (fun v2 hq => ?_)
  refine st_bipush (pc := 7) (v := (24 : Int32)) dX12_tell_7 (by decide) ?_
  refine bd_icmp_ne (pc := 9) (tgt := 18) hq dX12_tell_9 (by decide) (fun _ hq => ?_) (fun _ hq => ?_)
  ·
    refine st_aload_n (pc := 12) dX12_tell_12 rfl ?_
    refine st_iconst (pc := 13) (v := (4 : Int32)) dX12_tell_13 rfl ?_
    obtain ⟨⟨hbq3, hkq3⟩, hq⟩ := mh_oi hq
    obtain ⟨q3, e3, hq⟩ := mh_ob hq
    refine st_invV (pc := 14) (ci := 12) (vs := [.int (4 : Int32)]) (rest := []) (st2 := [.int q3.1]) dX12_tell_14 okX12_error (by decide) hkq3 hbq3 wd_1274 wd_1276 wp_37 pdX12_error rfl rfl rfl rfl (Nat.le_trans (by decide) hd) (Nat.le_of_ble_eq_true rfl) (T_X12_error (Nat.le_refl _) e3) rfl ?_
    exact bd_iret (pc := 17) hq dX12_tell_17 rfl
  ·
    refine st_aload_n (pc := 18) dX12_tell_18 rfl ?_
    refine bd_getr (pc := 19) hq dX12_tell_19 fl_12_9_12 rfl (fun v3 hq => ?_)
    refine st_sipush (pc := 22) (v := (7770 : Int32)) dX12_tell_22 (by decide) ?_
    refine st_aload_n (pc := 25) dX12_tell_25 rfl ?_
    refine bd_getr (pc := 26) hq dX12_tell_26 fl_12_9_12 rfl (fun v4 hq => ?_)
    refine st_bipush (pc := 29) (v := (7 : Int32)) dX12_tell_29 (by decide) ?_
    refine bd_iald (pc := 31) hq dX12_tell_31 (fun v5 hq => ?_)
    refine st_iadd (pc := 32) dX12_tell_32 ?_
    refine st_iload_n (pc := 33) dX12_tell_33 rfl ?_
    refine bd_iast (pc := 34) hq dX12_tell_34 (fun h6 hq => ?_)
    refine st_aload_n (pc := 35) dX12_tell_35 rfl ?_
    refine bd_getr (pc := 36) hq dX12_tell_36 fl_12_9_12 rfl (fun v7 hq => ?_)
    refine st_bipush (pc := 39) (v := (7 : Int32)) dX12_tell_39 (by decide) ?_
    refine st_dup2 (pc := 41) dX12_tell_41 rfl rfl ?_
    refine bd_iald (pc := 42) hq dX12_tell_42 (fun v8 hq => ?_)
    refine st_iconst (pc := 43) (v := (1 : Int32)) dX12_tell_43 rfl ?_
    refine st_iadd (pc := 44) dX12_tell_44 ?_
    refine bd_iast (pc := 45) hq dX12_tell_45 (fun h9 hq => ?_)
    refine st_aload_n (pc := 46) dX12_tell_46 rfl ?_
    refine bd_getr (pc := 47) hq dX12_tell_47 fl_12_9_12 rfl (fun v10 hq => ?_)
    refine st_bipush (pc := 50) (v := (7 : Int32)) dX12_tell_50 (by decide) ?_
    refine bd_iald (pc := 52) hq dX12_tell_52 (fun v11 hq => ?_)
    exact bd_iret (pc := 53) hq dX12_tell_53 rfl
-- HoleWaterModel.check(I)I
theorem dX12_check_100 : decode cX12_check 100 = .ok (.istore_n 3, 1) := by decide +kernel
theorem dX12_check_101 : decode cX12_check 101 = .ok (.iinc 4 1, 3) := by decide +kernel
theorem dX12_check_104 : decode cX12_check 104 = .ok (.goto (-51), 3) := by decide +kernel
theorem dX12_check_107 : decode cX12_check 107 = .ok (.aload_n 0, 1) := by decide +kernel
theorem dX12_check_108 : decode cX12_check 108 = .ok (.invokevirtual 192, 3) := by decide +kernel
theorem dX12_check_111 : decode cX12_check 111 = .ok (.iload_n 3, 1) := by decide +kernel
theorem dX12_check_112 : decode cX12_check 112 = .ok (.ireturn, 1) := by decide +kernel
theorem dX12_check_53 : decode cX12_check 53 = .ok (.iload 4, 2) := by decide +kernel
theorem dX12_check_55 : decode cX12_check 55 = .ok (.iload_n 2, 1) := by decide +kernel
theorem dX12_check_56 : decode cX12_check 56 = .ok (.if_icmp .ge 51, 3) := by decide +kernel
theorem dX12_check_59 : decode cX12_check 59 = .ok (.iload_n 3, 1) := by decide +kernel
theorem dX12_check_60 : decode cX12_check 60 = .ok (.ifCond .ne 47, 3) := by decide +kernel
theorem dX12_check_63 : decode cX12_check 63 = .ok (.aload_n 0, 1) := by decide +kernel
theorem dX12_check_64 : decode cX12_check 64 = .ok (.invokevirtual 160, 3) := by decide +kernel
theorem dX12_check_67 : decode cX12_check 67 = .ok (.aload_n 0, 1) := by decide +kernel
theorem dX12_check_68 : decode cX12_check 68 = .ok (.getfield 9, 3) := by decide +kernel
theorem dX12_check_71 : decode cX12_check 71 = .ok (.iload_n 1, 1) := by decide +kernel
theorem dX12_check_72 : decode cX12_check 72 = .ok (.invokestatic 71, 3) := by decide +kernel
theorem dX12_check_75 : decode cX12_check 75 = .ok (.iconst 4, 1) := by decide +kernel
theorem dX12_check_76 : decode cX12_check 76 = .ok (.iadd, 1) := by decide +kernel
theorem dX12_check_77 : decode cX12_check 77 = .ok (.iaload, 1) := by decide +kernel
theorem dX12_check_78 : decode cX12_check 78 = .ok (.aload_n 0, 1) := by decide +kernel
theorem dX12_check_79 : decode cX12_check 79 = .ok (.getfield 9, 3) := by decide +kernel
theorem dX12_check_82 : decode cX12_check 82 = .ok (.sipush 7770, 3) := by decide +kernel
theorem dX12_check_85 : decode cX12_check 85 = .ok (.iload 4, 2) := by decide +kernel
theorem dX12_check_87 : decode cX12_check 87 = .ok (.iadd, 1) := by decide +kernel
theorem dX12_check_88 : decode cX12_check 88 = .ok (.iaload, 1) := by decide +kernel
theorem dX12_check_89 : decode cX12_check 89 = .ok (.if_icmp .ne 7, 3) := by decide +kernel
theorem dX12_check_92 : decode cX12_check 92 = .ok (.iconst 0, 1) := by decide +kernel
theorem dX12_check_93 : decode cX12_check 93 = .ok (.goto 7, 3) := by decide +kernel
theorem dX12_check_96 : decode cX12_check 96 = .ok (.iconst 1, 1) := by decide +kernel
theorem dX12_check_97 : decode cX12_check 97 = .ok (.iload 4, 2) := by decide +kernel
theorem dX12_check_99 : decode cX12_check 99 = .ok (.iadd, 1) := by decide +kernel
theorem dX12_check_0 : decode cX12_check 0 = .ok (.aload_n 0, 1) := by decide +kernel
theorem dX12_check_1 : decode cX12_check 1 = .ok (.getfield 9, 3) := by decide +kernel
theorem dX12_check_4 : decode cX12_check 4 = .ok (.bipush 7, 2) := by decide +kernel
theorem dX12_check_6 : decode cX12_check 6 = .ok (.iaload, 1) := by decide +kernel
theorem dX12_check_7 : decode cX12_check 7 = .ok (.istore_n 2, 1) := by decide +kernel
theorem dX12_check_8 : decode cX12_check 8 = .ok (.aload_n 0, 1) := by decide +kernel
theorem dX12_check_9 : decode cX12_check 9 = .ok (.getfield 9, 3) := by decide +kernel
theorem dX12_check_12 : decode cX12_check 12 = .ok (.bipush 7, 2) := by decide +kernel
theorem dX12_check_14 : decode cX12_check 14 = .ok (.iconst 0, 1) := by decide +kernel
theorem dX12_check_15 : decode cX12_check 15 = .ok (.iastore, 1) := by decide +kernel
theorem dX12_check_16 : decode cX12_check 16 = .ok (.aload_n 0, 1) := by decide +kernel
theorem dX12_check_17 : decode cX12_check 17 = .ok (.iload_n 1, 1) := by decide +kernel
theorem dX12_check_18 : decode cX12_check 18 = .ok (.invokevirtual 83, 3) := by decide +kernel
theorem dX12_check_21 : decode cX12_check 21 = .ok (.ifCond .ne 9, 3) := by decide +kernel
theorem dX12_check_24 : decode cX12_check 24 = .ok (.aload_n 0, 1) := by decide +kernel
theorem dX12_check_25 : decode cX12_check 25 = .ok (.iconst 1, 1) := by decide +kernel
theorem dX12_check_26 : decode cX12_check 26 = .ok (.invokevirtual 80, 3) := by decide +kernel
theorem dX12_check_29 : decode cX12_check 29 = .ok (.ireturn, 1) := by decide +kernel
theorem dX12_check_30 : decode cX12_check 30 = .ok (.aload_n 0, 1) := by decide +kernel
theorem dX12_check_31 : decode cX12_check 31 = .ok (.iload_n 1, 1) := by decide +kernel
theorem dX12_check_32 : decode cX12_check 32 = .ok (.invokevirtual 93, 3) := by decide +kernel
theorem dX12_check_35 : decode cX12_check 35 = .ok (.ifCond .ne 9, 3) := by decide +kernel
theorem dX12_check_38 : decode cX12_check 38 = .ok (.aload_n 0, 1) := by decide +kernel
theorem dX12_check_39 : decode cX12_check 39 = .ok (.iconst 5, 1) := by decide +kernel
theorem dX12_check_40 : decode cX12_check 40 = .ok (.invokevirtual 80, 3) := by decide +kernel
theorem dX12_check_43 : decode cX12_check 43 = .ok (.ireturn, 1) := by decide +kernel
theorem dX12_check_44 : decode cX12_check 44 = .ok (.iconst 0, 1) := by decide +kernel
theorem dX12_check_45 : decode cX12_check 45 = .ok (.istore_n 3, 1) := by decide +kernel
theorem dX12_check_46 : decode cX12_check 46 = .ok (.aload_n 0, 1) := by decide +kernel
theorem dX12_check_47 : decode cX12_check 47 = .ok (.invokevirtual 185, 3) := by decide +kernel
theorem dX12_check_50 : decode cX12_check 50 = .ok (.iconst 0, 1) := by decide +kernel
theorem dX12_check_51 : decode cX12_check 51 = .ok (.istore 4, 2) := by decide +kernel
def D_X12_check_100 (N : Nat) (k53 : mh_H → Nat → Int32 → Int32 → Int32 → Int32 → Option (Int32 × mh_H)) (h : mh_H) (l0 : Nat) (l1 : Int32) (l2 : Int32) (l4 : Int32) (s0 : Int32) : Option (Int32 × mh_H) :=
  k53 h l0 l1 l2 s0 (l4 + Int32.ofInt (1))
set_option maxHeartbeats 4000000 in
set_option maxRecDepth 100000 in
theorem T_X12_check_100 {P : mh_E → Prop} {N d : Nat} (hd : 6 ≤ d) {z : (Int32 × mh_H)} {k53 : mh_H → Nat → Int32 → Int32 → Int32 → Int32 → Option (Int32 × mh_H)} (hk53 : ∀ (h : mh_H) (l0 : Nat) (l1 : Int32) (l2 : Int32) (l3 : Int32) (l4 : Int32), k53 h l0 l1 l2 l3 l4 = some z → mh_go P d mX12_check 53 [some (.ref l0), some (.int l1), some (.int l2), some (.int l3), some (.int l4)] [] h (some (.int z.1)) z.2) {h : mh_H} {l0 : Nat} {l1 : Int32} {l2 : Int32} {l4 : Int32} {s0 : Int32} (hq : D_X12_check_100 N k53 h l0 l1 l2 l4 s0 = some z) : mh_go P d mX12_check 100 [some (.ref l0), some (.int l1), some (.int l2), none, some (.int l4)] [.int s0] h (some (.int z.1)) z.2 := by
  unfold D_X12_check_100 at hq
  refine st_istore_n (pc := 100) (lv' := [some (.ref l0), some (.int l1), some (.int l2), some (.int s0), some (.int l4)]) dX12_check_100 rfl (by decide) rfl ?_
  refine st_iinc (pc := 101) (lv' := [some (.ref l0), some (.int l1), some (.int l2), some (.int s0), some (.int (l4 + Int32.ofInt (1)))]) dX12_check_101 rfl rfl (by decide) rfl ?_
  refine st_goto (pc := 104) (tgt := 53) dX12_check_104 (by decide) ?_
  exact hk53 _ _ _ _ _ _ hq
def D_X12_check_107 (N : Nat) (h : mh_H) (l0 : Nat) (l3 : Int32) : Option (Int32 × mh_H) :=
  kO h 12 l0 <|
  (D_X12_laysBack N h l0).bind fun q1 =>
  some (l3, q1)
set_option maxHeartbeats 4000000 in
set_option maxRecDepth 100000 in
theorem T_X12_check_107 {P : mh_E → Prop} {N d : Nat} (hd : 6 ≤ d) {z : (Int32 × mh_H)} {h : mh_H} {l0 : Nat} {l3 : Int32} (hq : D_X12_check_107 N h l0 l3 = some z) : mh_go P d mX12_check 107 [some (.ref l0), none, none, some (.int l3), none] [] h (some (.int z.1)) z.2 := by
  unfold D_X12_check_107 at hq
  refine st_aload_n (pc := 107) dX12_check_107 rfl ?_
  obtain ⟨⟨hbq1, hkq1⟩, hq⟩ := mh_oi hq
  obtain ⟨q1, e1, hq⟩ := mh_ob hq
  refine st_invV (pc := 108) (ci := 12) (vs := []) (rest := []) (st2 := []) dX12_check_108 okX12_laysBack (by decide) hkq1 hbq1 wd_1481 wd_1483 wp_64 pdX12_laysBack rfl rfl rfl rfl (Nat.le_trans (by decide) hd) (Nat.le_of_ble_eq_true rfl) (T_X12_laysBack (Nat.le_refl _) e1) rfl ?_
  refine st_iload_n (pc := 111) dX12_check_111 rfl ?_
  exact bd_iret (pc := 112) hq dX12_check_112 rfl
def D_X12_check_53 (N : Nat) : Nat → mh_H → Nat → Int32 → Int32 → Int32 → Int32 → Option (Int32 × mh_H)
  | 0, _, _, _, _, _, _ => none
  | F + 1, h, l0, l1, l2, l3, l4 =>
    if l2 ≤ l4 then (D_X12_check_107 N h l0 l3)
    else (if l3 = 0 then (kO h 12 l0 <|
    (D_X12_hour N h l0).bind fun q1 =>
    (gR q1 12 l0 0).bind fun v2 =>
    (D_X12_joint N q1 l1).bind fun q3 =>
    (aI q3.2 v2 (q3.1 + (4 : Int32))).bind fun v4 =>
    (gR q3.2 12 l0 0).bind fun v5 =>
    (aI q3.2 v5 ((7770 : Int32) + l4)).bind fun v6 =>
    if v4 = v6 then (D_X12_check_100 N (D_X12_check_53 N F) q3.2 l0 l1 l2 l4 (0 : Int32))
    else (D_X12_check_100 N (D_X12_check_53 N F) q3.2 l0 l1 l2 l4 ((1 : Int32) + l4)))
    else (D_X12_check_107 N h l0 l3))
set_option maxHeartbeats 4000000 in
set_option maxRecDepth 100000 in
theorem T_X12_check_53 {P : mh_E → Prop} {N d : Nat} (hd : 6 ≤ d) {z : (Int32 × mh_H)} : ∀ (F : Nat) (h : mh_H) (l0 : Nat) (l1 : Int32) (l2 : Int32) (l3 : Int32) (l4 : Int32), D_X12_check_53 N F h l0 l1 l2 l3 l4 = some z → mh_go P d mX12_check 53 [some (.ref l0), some (.int l1), some (.int l2), some (.int l3), some (.int l4)] [] h (some (.int z.1)) z.2 := by
  intro F
  induction F with
  | zero => intro h l0 l1 l2 l3 l4 hq; rw [D_X12_check_53] at hq; cases hq
  | succ F ih =>
    intro h l0 l1 l2 l3 l4 hq
    rw [D_X12_check_53] at hq
    refine st_iload (pc := 53) dX12_check_53 rfl ?_
    refine st_iload_n (pc := 55) dX12_check_55 rfl ?_
    refine bd_icmp_ge (pc := 56) (tgt := 107) hq dX12_check_56 (by decide) (fun _ hq => ?_) (fun _ hq => ?_)
    ·
      refine st_lesS (lv' := [some (.ref l0), none, none, some (.int l3), none]) ⟨Or.inr rfl, Or.inl rfl, Or.inl rfl, Or.inr rfl, Or.inl rfl, trivial⟩ ?_
      exact T_X12_check_107 hd hq
    ·
      refine st_iload_n (pc := 59) dX12_check_59 rfl ?_
      refine bd_if_ne (pc := 60) (tgt := 107) hq dX12_check_60 (by decide) (fun _ hq => ?_) (fun _ hq => ?_)
      ·
        refine st_aload_n (pc := 63) dX12_check_63 rfl ?_
        obtain ⟨⟨hbq1, hkq1⟩, hq⟩ := mh_oi hq
        obtain ⟨q1, e1, hq⟩ := mh_ob hq
        refine st_invV (pc := 64) (ci := 12) (vs := []) (rest := []) (st2 := []) dX12_check_64 okX12_hour (by decide) hkq1 hbq1 wd_1366 wd_1368 wp_46 pdX12_hour rfl rfl rfl rfl (Nat.le_trans (by decide) hd) (Nat.le_of_ble_eq_true rfl) (T_X12_hour (Nat.le_refl _) e1) rfl ?_
        refine st_aload_n (pc := 67) dX12_check_67 rfl ?_
        refine bd_getr (pc := 68) hq dX12_check_68 fl_12_9_12 rfl (fun v2 hq => ?_)
        refine st_iload_n (pc := 71) dX12_check_71 rfl ?_
        obtain ⟨q3, e3, hq⟩ := mh_ob hq
        refine st_invS (pc := 72) (Y := mX12_joint) (vs := [.int l1]) (rest := [.ref v2]) (st2 := [.int q3.1, .ref v2]) dX12_check_72 okX12_joint wd_1279 wd_1280 pdX12_joint rfl rfl rfl rfl (Nat.le_trans (by decide) hd) (Nat.le_of_ble_eq_true rfl) (T_X12_joint (Nat.le_refl _) e3) rfl ?_
        refine st_iconst (pc := 75) (v := (4 : Int32)) dX12_check_75 rfl ?_
        refine st_iadd (pc := 76) dX12_check_76 ?_
        refine bd_iald (pc := 77) hq dX12_check_77 (fun v4 hq => ?_)
        refine st_aload_n (pc := 78) dX12_check_78 rfl ?_
        refine bd_getr (pc := 79) hq dX12_check_79 fl_12_9_12 rfl (fun v5 hq => ?_)
        refine st_sipush (pc := 82) (v := (7770 : Int32)) dX12_check_82 (by decide) ?_
        refine st_iload (pc := 85) dX12_check_85 rfl ?_
        refine st_iadd (pc := 87) dX12_check_87 ?_
        refine bd_iald (pc := 88) hq dX12_check_88 (fun v6 hq => ?_)
        refine bd_icmp_ne (pc := 89) (tgt := 96) hq dX12_check_89 (by decide) (fun _ hq => ?_) (fun _ hq => ?_)
        ·
          refine st_iconst (pc := 92) (v := (0 : Int32)) dX12_check_92 rfl ?_
          refine st_goto (pc := 93) (tgt := 100) dX12_check_93 (by decide) ?_
          refine st_lesS (lv' := [some (.ref l0), some (.int l1), some (.int l2), none, some (.int l4)]) ⟨Or.inr rfl, Or.inr rfl, Or.inr rfl, Or.inl rfl, Or.inr rfl, trivial⟩ ?_
          exact T_X12_check_100 hd ih hq
        ·
          refine st_iconst (pc := 96) (v := (1 : Int32)) dX12_check_96 rfl ?_
          refine st_iload (pc := 97) dX12_check_97 rfl ?_
          refine st_iadd (pc := 99) dX12_check_99 ?_
          refine st_lesS (lv' := [some (.ref l0), some (.int l1), some (.int l2), none, some (.int l4)]) ⟨Or.inr rfl, Or.inr rfl, Or.inr rfl, Or.inl rfl, Or.inr rfl, trivial⟩ ?_
          exact T_X12_check_100 hd ih hq
      ·
        refine st_lesS (lv' := [some (.ref l0), none, none, some (.int l3), none]) ⟨Or.inr rfl, Or.inl rfl, Or.inl rfl, Or.inr rfl, Or.inl rfl, trivial⟩ ?_
        exact T_X12_check_107 hd hq
def D_X12_check (N : Nat) (h : mh_H) (l0 : Nat) (l1 : Int32) : Option (Int32 × mh_H) :=
  (gR h 12 l0 0).bind fun v1 =>
  (aI h v1 (7 : Int32)).bind fun v2 =>
  (gR h 12 l0 0).bind fun v3 =>
  (uI h v3 (7 : Int32) (0 : Int32)).bind fun h4 =>
  kO h4 12 l0 <|
  (D_X12_isJoint N h4 l0 l1).bind fun q5 =>
  if q5.1 = 0 then (kO q5.2 12 l0 <|
  (D_X12_error N q5.2 l0 (1 : Int32)).bind fun q6 =>
  some (q6.1, q6.2))
  else (kO q5.2 12 l0 <|
  (D_X12_isEnd N q5.2 l0 l1).bind fun q6 =>
  if q6.1 = 0 then (kO q6.2 12 l0 <|
  (D_X12_error N q6.2 l0 (5 : Int32)).bind fun q7 =>
  some (q7.1, q7.2))
  else (kO q6.2 12 l0 <|
  (D_X12_laysAside N q6.2 l0).bind fun q7 =>
  D_X12_check_53 N N q7 l0 l1 v2 (0 : Int32) (0 : Int32)))
set_option maxHeartbeats 4000000 in
set_option maxRecDepth 100000 in
theorem T_X12_check {P : mh_E → Prop} {N d : Nat} (hd : 6 ≤ d) {z : (Int32 × mh_H)} {h : mh_H} {l0 : Nat} {l1 : Int32} (hq : D_X12_check N h l0 l1 = some z) : mh_go P d mX12_check 0 [some (.ref l0), some (.int l1), none, none, none] [] h (some (.int z.1)) z.2 := by
  unfold D_X12_check at hq
  refine st_aload_n (pc := 0) dX12_check_0 rfl ?_
  refine bd_getr (pc := 1) hq dX12_check_1 fl_12_9_12 rfl (fun v1 hq => ?_)
  refine st_bipush (pc := 4) (v := (7 : Int32)) dX12_check_4 (by decide) ?_
  refine bd_iald (pc := 6) hq dX12_check_6 (fun v2 hq => ?_)
  refine st_istore_n (pc := 7) (lv' := [some (.ref l0), some (.int l1), some (.int v2), none, none]) dX12_check_7 rfl (by decide) rfl ?_
  refine st_aload_n (pc := 8) dX12_check_8 rfl ?_
  refine bd_getr (pc := 9) hq dX12_check_9 fl_12_9_12 rfl (fun v3 hq => ?_)
  refine st_bipush (pc := 12) (v := (7 : Int32)) dX12_check_12 (by decide) ?_
  refine st_iconst (pc := 14) (v := (0 : Int32)) dX12_check_14 rfl ?_
  refine bd_iast (pc := 15) hq dX12_check_15 (fun h4 hq => ?_)
  refine st_aload_n (pc := 16) dX12_check_16 rfl ?_
  refine st_iload_n (pc := 17) dX12_check_17 rfl ?_
  obtain ⟨⟨hbq5, hkq5⟩, hq⟩ := mh_oi hq
  obtain ⟨q5, e5, hq⟩ := mh_ob hq
  refine st_invV (pc := 18) (ci := 12) (vs := [.int l1]) (rest := []) (st2 := [.int q5.1]) dX12_check_18 okX12_isJoint (by decide) hkq5 hbq5 wd_1286 wd_1288 wp_38 pdX12_isJoint rfl rfl rfl rfl (Nat.le_trans (by decide) hd) (Nat.le_of_ble_eq_true rfl) (T_X12_isJoint (Nat.le_refl _) e5) rfl ?_
  refine bd_if_ne (pc := 21) (tgt := 30) hq dX12_check_21 (by decide) (fun _ hq => ?_) (fun _ hq => ?_)
  ·
    refine st_aload_n (pc := 24) dX12_check_24 rfl ?_
    refine st_iconst (pc := 25) (v := (1 : Int32)) dX12_check_25 rfl ?_
    obtain ⟨⟨hbq6, hkq6⟩, hq⟩ := mh_oi hq
    obtain ⟨q6, e6, hq⟩ := mh_ob hq
    refine st_invV (pc := 26) (ci := 12) (vs := [.int (1 : Int32)]) (rest := []) (st2 := [.int q6.1]) dX12_check_26 okX12_error (by decide) hkq6 hbq6 wd_1274 wd_1276 wp_37 pdX12_error rfl rfl rfl rfl (Nat.le_trans (by decide) hd) (Nat.le_of_ble_eq_true rfl) (T_X12_error (Nat.le_refl _) e6) rfl ?_
    exact bd_iret (pc := 29) hq dX12_check_29 rfl
  ·
    refine st_aload_n (pc := 30) dX12_check_30 rfl ?_
    refine st_iload_n (pc := 31) dX12_check_31 rfl ?_
    obtain ⟨⟨hbq6, hkq6⟩, hq⟩ := mh_oi hq
    obtain ⟨q6, e6, hq⟩ := mh_ob hq
    refine st_invV (pc := 32) (ci := 12) (vs := [.int l1]) (rest := []) (st2 := [.int q6.1]) dX12_check_32 okX12_isEnd (by decide) hkq6 hbq6 wd_1297 wd_1299 wp_39 pdX12_isEnd rfl rfl rfl rfl (Nat.le_trans (by decide) hd) (Nat.le_of_ble_eq_true rfl) (T_X12_isEnd (Nat.le_refl _) e6) rfl ?_
    refine bd_if_ne (pc := 35) (tgt := 44) hq dX12_check_35 (by decide) (fun _ hq => ?_) (fun _ hq => ?_)
    ·
      refine st_aload_n (pc := 38) dX12_check_38 rfl ?_
      refine st_iconst (pc := 39) (v := (5 : Int32)) dX12_check_39 rfl ?_
      obtain ⟨⟨hbq7, hkq7⟩, hq⟩ := mh_oi hq
      obtain ⟨q7, e7, hq⟩ := mh_ob hq
      refine st_invV (pc := 40) (ci := 12) (vs := [.int (5 : Int32)]) (rest := []) (st2 := [.int q7.1]) dX12_check_40 okX12_error (by decide) hkq7 hbq7 wd_1274 wd_1276 wp_37 pdX12_error rfl rfl rfl rfl (Nat.le_trans (by decide) hd) (Nat.le_of_ble_eq_true rfl) (T_X12_error (Nat.le_refl _) e7) rfl ?_
      exact bd_iret (pc := 43) hq dX12_check_43 rfl
    ·
      refine st_iconst (pc := 44) (v := (0 : Int32)) dX12_check_44 rfl ?_
      refine st_istore_n (pc := 45) (lv' := [some (.ref l0), some (.int l1), some (.int v2), some (.int (0 : Int32)), none]) dX12_check_45 rfl (by decide) rfl ?_
      refine st_aload_n (pc := 46) dX12_check_46 rfl ?_
      obtain ⟨⟨hbq7, hkq7⟩, hq⟩ := mh_oi hq
      obtain ⟨q7, e7, hq⟩ := mh_ob hq
      refine st_invV (pc := 47) (ci := 12) (vs := []) (rest := []) (st2 := []) dX12_check_47 okX12_laysAside (by decide) hkq7 hbq7 wd_1473 wd_1475 wp_62 pdX12_laysAside rfl rfl rfl rfl (Nat.le_trans (by decide) hd) (Nat.le_of_ble_eq_true rfl) (T_X12_laysAside (Nat.le_refl _) e7) rfl ?_
      refine st_iconst (pc := 50) (v := (0 : Int32)) dX12_check_50 rfl ?_
      refine st_istore (pc := 51) (lv' := [some (.ref l0), some (.int l1), some (.int v2), some (.int (0 : Int32)), some (.int (0 : Int32))]) dX12_check_51 rfl (by decide) rfl ?_
      exact T_X12_check_53 hd N _ _ _ _ _ _ hq
-- HoleWaterModel.water()I
theorem dX12_water_36 : decode cX12_water 36 = .ok (.iload_n 2, 1) := by decide +kernel
theorem dX12_water_37 : decode cX12_water 37 = .ok (.aload_n 0, 1) := by decide +kernel
theorem dX12_water_38 : decode cX12_water 38 = .ok (.getfield 9, 3) := by decide +kernel
theorem dX12_water_41 : decode cX12_water 41 = .ok (.iconst 2, 1) := by decide +kernel
theorem dX12_water_42 : decode cX12_water 42 = .ok (.iaload, 1) := by decide +kernel
theorem dX12_water_43 : decode cX12_water 43 = .ok (.if_icmp .ge 18, 3) := by decide +kernel
theorem dX12_water_61 : decode cX12_water 61 = .ok (.iload_n 1, 1) := by decide +kernel
theorem dX12_water_62 : decode cX12_water 62 = .ok (.ireturn, 1) := by decide +kernel
theorem dX12_water_46 : decode cX12_water 46 = .ok (.iload_n 1, 1) := by decide +kernel
theorem dX12_water_47 : decode cX12_water 47 = .ok (.aload_n 0, 1) := by decide +kernel
theorem dX12_water_48 : decode cX12_water 48 = .ok (.iload_n 2, 1) := by decide +kernel
theorem dX12_water_49 : decode cX12_water 49 = .ok (.iconst 0, 1) := by decide +kernel
theorem dX12_water_50 : decode cX12_water 50 = .ok (.invokevirtual 115, 3) := by decide +kernel
theorem dX12_water_53 : decode cX12_water 53 = .ok (.iadd, 1) := by decide +kernel
theorem dX12_water_54 : decode cX12_water 54 = .ok (.istore_n 1, 1) := by decide +kernel
theorem dX12_water_55 : decode cX12_water 55 = .ok (.iinc 2 1, 3) := by decide +kernel
theorem dX12_water_58 : decode cX12_water 58 = .ok (.goto (-22), 3) := by decide +kernel
theorem dX12_water_4 : decode cX12_water 4 = .ok (.iload_n 2, 1) := by decide +kernel
theorem dX12_water_5 : decode cX12_water 5 = .ok (.aload_n 0, 1) := by decide +kernel
theorem dX12_water_6 : decode cX12_water 6 = .ok (.getfield 9, 3) := by decide +kernel
theorem dX12_water_9 : decode cX12_water 9 = .ok (.iconst 1, 1) := by decide +kernel
theorem dX12_water_10 : decode cX12_water 10 = .ok (.iaload, 1) := by decide +kernel
theorem dX12_water_11 : decode cX12_water 11 = .ok (.if_icmp .ge 23, 3) := by decide +kernel
theorem dX12_water_34 : decode cX12_water 34 = .ok (.iconst 0, 1) := by decide +kernel
theorem dX12_water_35 : decode cX12_water 35 = .ok (.istore_n 2, 1) := by decide +kernel
theorem dX12_water_14 : decode cX12_water 14 = .ok (.iload_n 1, 1) := by decide +kernel
theorem dX12_water_15 : decode cX12_water 15 = .ok (.aload_n 0, 1) := by decide +kernel
theorem dX12_water_16 : decode cX12_water 16 = .ok (.getfield 9, 3) := by decide +kernel
theorem dX12_water_19 : decode cX12_water 19 = .ok (.iload_n 2, 1) := by decide +kernel
theorem dX12_water_20 : decode cX12_water 20 = .ok (.invokestatic 71, 3) := by decide +kernel
theorem dX12_water_23 : decode cX12_water 23 = .ok (.iconst 3, 1) := by decide +kernel
theorem dX12_water_24 : decode cX12_water 24 = .ok (.iadd, 1) := by decide +kernel
theorem dX12_water_25 : decode cX12_water 25 = .ok (.iaload, 1) := by decide +kernel
theorem dX12_water_26 : decode cX12_water 26 = .ok (.iadd, 1) := by decide +kernel
theorem dX12_water_27 : decode cX12_water 27 = .ok (.istore_n 1, 1) := by decide +kernel
theorem dX12_water_28 : decode cX12_water 28 = .ok (.iinc 2 1, 3) := by decide +kernel
theorem dX12_water_31 : decode cX12_water 31 = .ok (.goto (-27), 3) := by decide +kernel
theorem dX12_water_0 : decode cX12_water 0 = .ok (.iconst 0, 1) := by decide +kernel
theorem dX12_water_1 : decode cX12_water 1 = .ok (.istore_n 1, 1) := by decide +kernel
theorem dX12_water_2 : decode cX12_water 2 = .ok (.iconst 0, 1) := by decide +kernel
theorem dX12_water_3 : decode cX12_water 3 = .ok (.istore_n 2, 1) := by decide +kernel
def D_X12_water_36 (N : Nat) : Nat → mh_H → Nat → Int32 → Int32 → Option (Int32 × mh_H)
  | 0, _, _, _, _ => none
  | F + 1, h, l0, l1, l2 =>
    (gR h 12 l0 0).bind fun v1 =>
    (aI h v1 (2 : Int32)).bind fun v2 =>
    if v2 ≤ l2 then (some (l1, h))
    else (kO h 12 l0 <|
    (D_X12_inWay N h l0 l2 (0 : Int32)).bind fun q3 =>
    (D_X12_water_36 N F) q3.2 l0 (l1 + q3.1) (l2 + Int32.ofInt (1)))
set_option maxHeartbeats 4000000 in
set_option maxRecDepth 100000 in
theorem T_X12_water_36 {P : mh_E → Prop} {N d : Nat} (hd : 3 ≤ d) {z : (Int32 × mh_H)} : ∀ (F : Nat) (h : mh_H) (l0 : Nat) (l1 : Int32) (l2 : Int32), D_X12_water_36 N F h l0 l1 l2 = some z → mh_go P d mX12_water 36 [some (.ref l0), some (.int l1), some (.int l2)] [] h (some (.int z.1)) z.2 := by
  intro F
  induction F with
  | zero => intro h l0 l1 l2 hq; rw [D_X12_water_36] at hq; cases hq
  | succ F ih =>
    intro h l0 l1 l2 hq
    rw [D_X12_water_36] at hq
    refine st_iload_n (pc := 36) dX12_water_36 rfl ?_
    refine st_aload_n (pc := 37) dX12_water_37 rfl ?_
    refine bd_getr (pc := 38) hq dX12_water_38 fl_12_9_12 rfl (fun v1 hq => ?_)
    refine st_iconst (pc := 41) (v := (2 : Int32)) dX12_water_41 rfl ?_
    refine bd_iald (pc := 42) hq dX12_water_42 (fun v2 hq => ?_)
    refine bd_icmp_ge (pc := 43) (tgt := 61) hq dX12_water_43 (by decide) (fun _ hq => ?_) (fun _ hq => ?_)
    ·
      refine st_iload_n (pc := 61) dX12_water_61 rfl ?_
      exact bd_iret (pc := 62) hq dX12_water_62 rfl
    ·
      refine st_iload_n (pc := 46) dX12_water_46 rfl ?_
      refine st_aload_n (pc := 47) dX12_water_47 rfl ?_
      refine st_iload_n (pc := 48) dX12_water_48 rfl ?_
      refine st_iconst (pc := 49) (v := (0 : Int32)) dX12_water_49 rfl ?_
      obtain ⟨⟨hbq3, hkq3⟩, hq⟩ := mh_oi hq
      obtain ⟨q3, e3, hq⟩ := mh_ob hq
      refine st_invV (pc := 50) (ci := 12) (vs := [.int l2, .int (0 : Int32)]) (rest := [.int l1]) (st2 := [.int q3.1, .int l1]) dX12_water_50 okX12_inWay (by decide) hkq3 hbq3 wd_1334 wd_1336 wp_44 pdX12_inWay rfl rfl rfl rfl (Nat.le_trans (by decide) hd) (Nat.le_of_ble_eq_true rfl) (T_X12_inWay (Nat.le_refl _) e3) rfl ?_
      refine st_iadd (pc := 53) dX12_water_53 ?_
      refine st_istore_n (pc := 54) (lv' := [some (.ref l0), some (.int (l1 + q3.1)), some (.int l2)]) dX12_water_54 rfl (by decide) rfl ?_
      refine st_iinc (pc := 55) (lv' := [some (.ref l0), some (.int (l1 + q3.1)), some (.int (l2 + Int32.ofInt (1)))]) dX12_water_55 rfl rfl (by decide) rfl ?_
      refine st_goto (pc := 58) (tgt := 36) dX12_water_58 (by decide) ?_
      exact ih _ _ _ _ hq
def D_X12_water_4 (N : Nat) : Nat → mh_H → Nat → Int32 → Int32 → Option (Int32 × mh_H)
  | 0, _, _, _, _ => none
  | F + 1, h, l0, l1, l2 =>
    (gR h 12 l0 0).bind fun v1 =>
    (aI h v1 (1 : Int32)).bind fun v2 =>
    if v2 ≤ l2 then (D_X12_water_36 N N h l0 l1 (0 : Int32))
    else ((gR h 12 l0 0).bind fun v3 =>
    (D_X12_joint N h l2).bind fun q4 =>
    (aI q4.2 v3 (q4.1 + (3 : Int32))).bind fun v5 =>
    (D_X12_water_4 N F) q4.2 l0 (l1 + v5) (l2 + Int32.ofInt (1)))
set_option maxHeartbeats 4000000 in
set_option maxRecDepth 100000 in
theorem T_X12_water_4 {P : mh_E → Prop} {N d : Nat} (hd : 3 ≤ d) {z : (Int32 × mh_H)} : ∀ (F : Nat) (h : mh_H) (l0 : Nat) (l1 : Int32) (l2 : Int32), D_X12_water_4 N F h l0 l1 l2 = some z → mh_go P d mX12_water 4 [some (.ref l0), some (.int l1), some (.int l2)] [] h (some (.int z.1)) z.2 := by
  intro F
  induction F with
  | zero => intro h l0 l1 l2 hq; rw [D_X12_water_4] at hq; cases hq
  | succ F ih =>
    intro h l0 l1 l2 hq
    rw [D_X12_water_4] at hq
    refine st_iload_n (pc := 4) dX12_water_4 rfl ?_
    refine st_aload_n (pc := 5) dX12_water_5 rfl ?_
    refine bd_getr (pc := 6) hq dX12_water_6 fl_12_9_12 rfl (fun v1 hq => ?_)
    refine st_iconst (pc := 9) (v := (1 : Int32)) dX12_water_9 rfl ?_
    refine bd_iald (pc := 10) hq dX12_water_10 (fun v2 hq => ?_)
    refine bd_icmp_ge (pc := 11) (tgt := 34) hq dX12_water_11 (by decide) (fun _ hq => ?_) (fun _ hq => ?_)
    ·
      refine st_iconst (pc := 34) (v := (0 : Int32)) dX12_water_34 rfl ?_
      refine st_istore_n (pc := 35) (lv' := [some (.ref l0), some (.int l1), some (.int (0 : Int32))]) dX12_water_35 rfl (by decide) rfl ?_
      exact T_X12_water_36 hd N _ _ _ _ hq
    ·
      refine st_iload_n (pc := 14) dX12_water_14 rfl ?_
      refine st_aload_n (pc := 15) dX12_water_15 rfl ?_
      refine bd_getr (pc := 16) hq dX12_water_16 fl_12_9_12 rfl (fun v3 hq => ?_)
      refine st_iload_n (pc := 19) dX12_water_19 rfl ?_
      obtain ⟨q4, e4, hq⟩ := mh_ob hq
      refine st_invS (pc := 20) (Y := mX12_joint) (vs := [.int l2]) (rest := [.ref v3, .int l1]) (st2 := [.int q4.1, .ref v3, .int l1]) dX12_water_20 okX12_joint wd_1279 wd_1280 pdX12_joint rfl rfl rfl rfl (Nat.le_trans (by decide) hd) (Nat.le_of_ble_eq_true rfl) (T_X12_joint (Nat.le_refl _) e4) rfl ?_
      refine st_iconst (pc := 23) (v := (3 : Int32)) dX12_water_23 rfl ?_
      refine st_iadd (pc := 24) dX12_water_24 ?_
      refine bd_iald (pc := 25) hq dX12_water_25 (fun v5 hq => ?_)
      refine st_iadd (pc := 26) dX12_water_26 ?_
      refine st_istore_n (pc := 27) (lv' := [some (.ref l0), some (.int (l1 + v5)), some (.int l2)]) dX12_water_27 rfl (by decide) rfl ?_
      refine st_iinc (pc := 28) (lv' := [some (.ref l0), some (.int (l1 + v5)), some (.int (l2 + Int32.ofInt (1)))]) dX12_water_28 rfl rfl (by decide) rfl ?_
      refine st_goto (pc := 31) (tgt := 4) dX12_water_31 (by decide) ?_
      exact ih _ _ _ _ hq
def D_X12_water (N : Nat) (h : mh_H) (l0 : Nat) : Option (Int32 × mh_H) :=
  D_X12_water_4 N N h l0 (0 : Int32) (0 : Int32)
set_option maxHeartbeats 4000000 in
set_option maxRecDepth 100000 in
theorem T_X12_water {P : mh_E → Prop} {N d : Nat} (hd : 3 ≤ d) {z : (Int32 × mh_H)} {h : mh_H} {l0 : Nat} (hq : D_X12_water N h l0 = some z) : mh_go P d mX12_water 0 [some (.ref l0), none, none] [] h (some (.int z.1)) z.2 := by
  unfold D_X12_water at hq
  refine st_iconst (pc := 0) (v := (0 : Int32)) dX12_water_0 rfl ?_
  refine st_istore_n (pc := 1) (lv' := [some (.ref l0), some (.int (0 : Int32)), none]) dX12_water_1 rfl (by decide) rfl ?_
  refine st_iconst (pc := 2) (v := (0 : Int32)) dX12_water_2 rfl ?_
  refine st_istore_n (pc := 3) (lv' := [some (.ref l0), some (.int (0 : Int32)), some (.int (0 : Int32))]) dX12_water_3 rfl (by decide) rfl ?_
  exact T_X12_water_4 hd N _ _ _ _ hq
-- HoleWaterModel.sawMany()I
theorem dX12_sawMany_4 : decode cX12_sawMany 4 = .ok (.iload_n 2, 1) := by decide +kernel
theorem dX12_sawMany_5 : decode cX12_sawMany 5 = .ok (.aload_n 0, 1) := by decide +kernel
theorem dX12_sawMany_6 : decode cX12_sawMany 6 = .ok (.getfield 9, 3) := by decide +kernel
theorem dX12_sawMany_9 : decode cX12_sawMany 9 = .ok (.iconst 4, 1) := by decide +kernel
theorem dX12_sawMany_10 : decode cX12_sawMany 10 = .ok (.iaload, 1) := by decide +kernel
theorem dX12_sawMany_11 : decode cX12_sawMany 11 = .ok (.if_icmp .ge 18, 3) := by decide +kernel
theorem dX12_sawMany_29 : decode cX12_sawMany 29 = .ok (.iload_n 1, 1) := by decide +kernel
theorem dX12_sawMany_30 : decode cX12_sawMany 30 = .ok (.ireturn, 1) := by decide +kernel
theorem dX12_sawMany_14 : decode cX12_sawMany 14 = .ok (.iload_n 1, 1) := by decide +kernel
theorem dX12_sawMany_15 : decode cX12_sawMany 15 = .ok (.aload_n 0, 1) := by decide +kernel
theorem dX12_sawMany_16 : decode cX12_sawMany 16 = .ok (.iload_n 2, 1) := by decide +kernel
theorem dX12_sawMany_17 : decode cX12_sawMany 17 = .ok (.iconst 4, 1) := by decide +kernel
theorem dX12_sawMany_18 : decode cX12_sawMany 18 = .ok (.invokevirtual 269, 3) := by decide +kernel
theorem dX12_sawMany_21 : decode cX12_sawMany 21 = .ok (.iadd, 1) := by decide +kernel
theorem dX12_sawMany_22 : decode cX12_sawMany 22 = .ok (.istore_n 1, 1) := by decide +kernel
theorem dX12_sawMany_23 : decode cX12_sawMany 23 = .ok (.iinc 2 1, 3) := by decide +kernel
theorem dX12_sawMany_26 : decode cX12_sawMany 26 = .ok (.goto (-22), 3) := by decide +kernel
theorem dX12_sawMany_0 : decode cX12_sawMany 0 = .ok (.iconst 0, 1) := by decide +kernel
theorem dX12_sawMany_1 : decode cX12_sawMany 1 = .ok (.istore_n 1, 1) := by decide +kernel
theorem dX12_sawMany_2 : decode cX12_sawMany 2 = .ok (.iconst 0, 1) := by decide +kernel
theorem dX12_sawMany_3 : decode cX12_sawMany 3 = .ok (.istore_n 2, 1) := by decide +kernel
def D_X12_sawMany_4 (N : Nat) : Nat → mh_H → Nat → Int32 → Int32 → Option (Int32 × mh_H)
  | 0, _, _, _, _ => none
  | F + 1, h, l0, l1, l2 =>
    (gR h 12 l0 0).bind fun v1 =>
    (aI h v1 (4 : Int32)).bind fun v2 =>
    if v2 ≤ l2 then (some (l1, h))
    else (kO h 12 l0 <|
    (D_X12_look N h l0 l2 (4 : Int32)).bind fun q3 =>
    (D_X12_sawMany_4 N F) q3.2 l0 (l1 + q3.1) (l2 + Int32.ofInt (1)))
set_option maxHeartbeats 4000000 in
set_option maxRecDepth 100000 in
theorem T_X12_sawMany_4 {P : mh_E → Prop} {N d : Nat} (hd : 2 ≤ d) {z : (Int32 × mh_H)} : ∀ (F : Nat) (h : mh_H) (l0 : Nat) (l1 : Int32) (l2 : Int32), D_X12_sawMany_4 N F h l0 l1 l2 = some z → mh_go P d mX12_sawMany 4 [some (.ref l0), some (.int l1), some (.int l2)] [] h (some (.int z.1)) z.2 := by
  intro F
  induction F with
  | zero => intro h l0 l1 l2 hq; rw [D_X12_sawMany_4] at hq; cases hq
  | succ F ih =>
    intro h l0 l1 l2 hq
    rw [D_X12_sawMany_4] at hq
    refine st_iload_n (pc := 4) dX12_sawMany_4 rfl ?_
    refine st_aload_n (pc := 5) dX12_sawMany_5 rfl ?_
    refine bd_getr (pc := 6) hq dX12_sawMany_6 fl_12_9_12 rfl (fun v1 hq => ?_)
    refine st_iconst (pc := 9) (v := (4 : Int32)) dX12_sawMany_9 rfl ?_
    refine bd_iald (pc := 10) hq dX12_sawMany_10 (fun v2 hq => ?_)
    refine bd_icmp_ge (pc := 11) (tgt := 29) hq dX12_sawMany_11 (by decide) (fun _ hq => ?_) (fun _ hq => ?_)
    ·
      refine st_iload_n (pc := 29) dX12_sawMany_29 rfl ?_
      exact bd_iret (pc := 30) hq dX12_sawMany_30 rfl
    ·
      refine st_iload_n (pc := 14) dX12_sawMany_14 rfl ?_
      refine st_aload_n (pc := 15) dX12_sawMany_15 rfl ?_
      refine st_iload_n (pc := 16) dX12_sawMany_16 rfl ?_
      refine st_iconst (pc := 17) (v := (4 : Int32)) dX12_sawMany_17 rfl ?_
      obtain ⟨⟨hbq3, hkq3⟩, hq⟩ := mh_oi hq
      obtain ⟨q3, e3, hq⟩ := mh_ob hq
      refine st_invV (pc := 18) (ci := 12) (vs := [.int l2, .int (4 : Int32)]) (rest := [.int l1]) (st2 := [.int q3.1, .int l1]) dX12_sawMany_18 okX12_look (by decide) hkq3 hbq3 wd_1564 wd_1566 wp_75 pdX12_look rfl rfl rfl rfl (Nat.le_trans (by decide) hd) (Nat.le_of_ble_eq_true rfl) (T_X12_look (Nat.le_refl _) e3) rfl ?_
      refine st_iadd (pc := 21) dX12_sawMany_21 ?_
      refine st_istore_n (pc := 22) (lv' := [some (.ref l0), some (.int (l1 + q3.1)), some (.int l2)]) dX12_sawMany_22 rfl (by decide) rfl ?_
      refine st_iinc (pc := 23) (lv' := [some (.ref l0), some (.int (l1 + q3.1)), some (.int (l2 + Int32.ofInt (1)))]) dX12_sawMany_23 rfl rfl (by decide) rfl ?_
      refine st_goto (pc := 26) (tgt := 4) dX12_sawMany_26 (by decide) ?_
      exact ih _ _ _ _ hq
def D_X12_sawMany (N : Nat) (h : mh_H) (l0 : Nat) : Option (Int32 × mh_H) :=
  D_X12_sawMany_4 N N h l0 (0 : Int32) (0 : Int32)
set_option maxHeartbeats 4000000 in
set_option maxRecDepth 100000 in
theorem T_X12_sawMany {P : mh_E → Prop} {N d : Nat} (hd : 2 ≤ d) {z : (Int32 × mh_H)} {h : mh_H} {l0 : Nat} (hq : D_X12_sawMany N h l0 = some z) : mh_go P d mX12_sawMany 0 [some (.ref l0), none, none] [] h (some (.int z.1)) z.2 := by
  unfold D_X12_sawMany at hq
  refine st_iconst (pc := 0) (v := (0 : Int32)) dX12_sawMany_0 rfl ?_
  refine st_istore_n (pc := 1) (lv' := [some (.ref l0), some (.int (0 : Int32)), none]) dX12_sawMany_1 rfl (by decide) rfl ?_
  refine st_iconst (pc := 2) (v := (0 : Int32)) dX12_sawMany_2 rfl ?_
  refine st_istore_n (pc := 3) (lv' := [some (.ref l0), some (.int (0 : Int32)), some (.int (0 : Int32))]) dX12_sawMany_3 rfl (by decide) rfl ?_
  exact T_X12_sawMany_4 hd N _ _ _ _ hq
-- HoleWaterModel.count(I)I
theorem dX12_count_0 : decode cX12_count 0 = .ok (.iload_n 1, 1) := by decide +kernel
theorem dX12_count_1 : decode cX12_count 1 = .ok (.tableswitch 118 0 11 #[63, 63, 63, 63, 63, 72, 77, 85, 93, 98, 105, 113], 63) := by decide +kernel
theorem dX12_count_64 : decode cX12_count 64 = .ok (.aload_n 0, 1) := by decide +kernel
theorem dX12_count_65 : decode cX12_count 65 = .ok (.getfield 9, 3) := by decide +kernel
theorem dX12_count_68 : decode cX12_count 68 = .ok (.iconst 0, 1) := by decide +kernel
theorem dX12_count_69 : decode cX12_count 69 = .ok (.iload_n 1, 1) := by decide +kernel
theorem dX12_count_70 : decode cX12_count 70 = .ok (.iadd, 1) := by decide +kernel
theorem dX12_count_71 : decode cX12_count 71 = .ok (.iaload, 1) := by decide +kernel
theorem dX12_count_72 : decode cX12_count 72 = .ok (.ireturn, 1) := by decide +kernel
theorem dX12_count_73 : decode cX12_count 73 = .ok (.aload_n 0, 1) := by decide +kernel
theorem dX12_count_74 : decode cX12_count 74 = .ok (.invokevirtual 352, 3) := by decide +kernel
theorem dX12_count_77 : decode cX12_count 77 = .ok (.ireturn, 1) := by decide +kernel
theorem dX12_count_78 : decode cX12_count 78 = .ok (.aload_n 0, 1) := by decide +kernel
theorem dX12_count_79 : decode cX12_count 79 = .ok (.getfield 9, 3) := by decide +kernel
theorem dX12_count_82 : decode cX12_count 82 = .ok (.bipush 6, 2) := by decide +kernel
theorem dX12_count_84 : decode cX12_count 84 = .ok (.iaload, 1) := by decide +kernel
theorem dX12_count_85 : decode cX12_count 85 = .ok (.ireturn, 1) := by decide +kernel
theorem dX12_count_86 : decode cX12_count 86 = .ok (.aload_n 0, 1) := by decide +kernel
theorem dX12_count_87 : decode cX12_count 87 = .ok (.getfield 9, 3) := by decide +kernel
theorem dX12_count_90 : decode cX12_count 90 = .ok (.bipush 7, 2) := by decide +kernel
theorem dX12_count_92 : decode cX12_count 92 = .ok (.iaload, 1) := by decide +kernel
theorem dX12_count_93 : decode cX12_count 93 = .ok (.ireturn, 1) := by decide +kernel
theorem dX12_count_94 : decode cX12_count 94 = .ok (.aload_n 0, 1) := by decide +kernel
theorem dX12_count_95 : decode cX12_count 95 = .ok (.getfield 306, 3) := by decide +kernel
theorem dX12_count_98 : decode cX12_count 98 = .ok (.ireturn, 1) := by decide +kernel
theorem dX12_count_99 : decode cX12_count 99 = .ok (.aload_n 0, 1) := by decide +kernel
theorem dX12_count_100 : decode cX12_count 100 = .ok (.getfield 9, 3) := by decide +kernel
theorem dX12_count_103 : decode cX12_count 103 = .ok (.iconst 5, 1) := by decide +kernel
theorem dX12_count_104 : decode cX12_count 104 = .ok (.iaload, 1) := by decide +kernel
theorem dX12_count_105 : decode cX12_count 105 = .ok (.ireturn, 1) := by decide +kernel
theorem dX12_count_106 : decode cX12_count 106 = .ok (.aload_n 0, 1) := by decide +kernel
theorem dX12_count_107 : decode cX12_count 107 = .ok (.getfield 9, 3) := by decide +kernel
theorem dX12_count_110 : decode cX12_count 110 = .ok (.bipush 8, 2) := by decide +kernel
theorem dX12_count_112 : decode cX12_count 112 = .ok (.iaload, 1) := by decide +kernel
theorem dX12_count_113 : decode cX12_count 113 = .ok (.ireturn, 1) := by decide +kernel
theorem dX12_count_114 : decode cX12_count 114 = .ok (.aload_n 0, 1) := by decide +kernel
theorem dX12_count_115 : decode cX12_count 115 = .ok (.invokevirtual 355, 3) := by decide +kernel
theorem dX12_count_118 : decode cX12_count 118 = .ok (.ireturn, 1) := by decide +kernel
theorem dX12_count_119 : decode cX12_count 119 = .ok (.aload_n 0, 1) := by decide +kernel
theorem dX12_count_120 : decode cX12_count 120 = .ok (.iconst 1, 1) := by decide +kernel
theorem dX12_count_121 : decode cX12_count 121 = .ok (.invokevirtual 80, 3) := by decide +kernel
theorem dX12_count_124 : decode cX12_count 124 = .ok (.ireturn, 1) := by decide +kernel
def D_X12_count (N : Nat) (h : mh_H) (l0 : Nat) (l1 : Int32) : Option (Int32 × mh_H) :=
  if l1 = 0 then ((gR h 12 l0 0).bind fun v1 =>
  (aI h v1 ((0 : Int32) + l1)).bind fun v2 =>
  some (v2, h))
  else if l1 = 1 then ((gR h 12 l0 0).bind fun v1 =>
  (aI h v1 ((0 : Int32) + l1)).bind fun v2 =>
  some (v2, h))
  else if l1 = 2 then ((gR h 12 l0 0).bind fun v1 =>
  (aI h v1 ((0 : Int32) + l1)).bind fun v2 =>
  some (v2, h))
  else if l1 = 3 then ((gR h 12 l0 0).bind fun v1 =>
  (aI h v1 ((0 : Int32) + l1)).bind fun v2 =>
  some (v2, h))
  else if l1 = 4 then ((gR h 12 l0 0).bind fun v1 =>
  (aI h v1 ((0 : Int32) + l1)).bind fun v2 =>
  some (v2, h))
  else if l1 = 5 then (kO h 12 l0 <|
  (D_X12_sawMany N h l0).bind fun q1 =>
  some (q1.1, q1.2))
  else if l1 = 6 then ((gR h 12 l0 0).bind fun v1 =>
  (aI h v1 (6 : Int32)).bind fun v2 =>
  some (v2, h))
  else if l1 = 7 then ((gR h 12 l0 0).bind fun v1 =>
  (aI h v1 (7 : Int32)).bind fun v2 =>
  some (v2, h))
  else if l1 = 8 then ((gI h 12 l0 22).bind fun v1 =>
  some (v1, h))
  else if l1 = 9 then ((gR h 12 l0 0).bind fun v1 =>
  (aI h v1 (5 : Int32)).bind fun v2 =>
  some (v2, h))
  else if l1 = 10 then ((gR h 12 l0 0).bind fun v1 =>
  (aI h v1 (8 : Int32)).bind fun v2 =>
  some (v2, h))
  else if l1 = 11 then (kO h 12 l0 <|
  (D_X12_water N h l0).bind fun q1 =>
  some (q1.1, q1.2))
  else (kO h 12 l0 <|
  (D_X12_error N h l0 (1 : Int32)).bind fun q1 =>
  some (q1.1, q1.2))
set_option maxHeartbeats 4000000 in
set_option maxRecDepth 100000 in
theorem T_X12_count {P : mh_E → Prop} {N d : Nat} (hd : 4 ≤ d) {z : (Int32 × mh_H)} {h : mh_H} {l0 : Nat} {l1 : Int32} (hq : D_X12_count N h l0 l1 = some z) : mh_go P d mX12_count 0 [some (.ref l0), some (.int l1)] [] h (some (.int z.1)) z.2 := by
  unfold D_X12_count at hq
  refine st_iload_n (pc := 0) dX12_count_0 rfl ?_
  by_cases c0 : l1 = 0
  ·
    rw [if_pos c0] at hq
    refine st_tin (pc := 1) (tgt := 64) dX12_count_1 (by rw [c0]; decide) (by rw [c0]; decide) (by rw [c0]; rfl) (by decide) ?_
    refine st_aload_n (pc := 64) dX12_count_64 rfl ?_
    refine bd_getr (pc := 65) hq dX12_count_65 fl_12_9_12 rfl (fun v1 hq => ?_)
    refine st_iconst (pc := 68) (v := (0 : Int32)) dX12_count_68 rfl ?_
    refine st_iload_n (pc := 69) dX12_count_69 rfl ?_
    refine st_iadd (pc := 70) dX12_count_70 ?_
    refine bd_iald (pc := 71) hq dX12_count_71 (fun v2 hq => ?_)
    exact bd_iret (pc := 72) hq dX12_count_72 rfl
  ·
    rw [if_neg c0] at hq
    by_cases c1 : l1 = 1
    ·
      rw [if_pos c1] at hq
      refine st_tin (pc := 1) (tgt := 64) dX12_count_1 (by rw [c1]; decide) (by rw [c1]; decide) (by rw [c1]; rfl) (by decide) ?_
      refine st_aload_n (pc := 64) dX12_count_64 rfl ?_
      refine bd_getr (pc := 65) hq dX12_count_65 fl_12_9_12 rfl (fun v1 hq => ?_)
      refine st_iconst (pc := 68) (v := (0 : Int32)) dX12_count_68 rfl ?_
      refine st_iload_n (pc := 69) dX12_count_69 rfl ?_
      refine st_iadd (pc := 70) dX12_count_70 ?_
      refine bd_iald (pc := 71) hq dX12_count_71 (fun v2 hq => ?_)
      exact bd_iret (pc := 72) hq dX12_count_72 rfl
    ·
      rw [if_neg c1] at hq
      by_cases c2 : l1 = 2
      ·
        rw [if_pos c2] at hq
        refine st_tin (pc := 1) (tgt := 64) dX12_count_1 (by rw [c2]; decide) (by rw [c2]; decide) (by rw [c2]; rfl) (by decide) ?_
        refine st_aload_n (pc := 64) dX12_count_64 rfl ?_
        refine bd_getr (pc := 65) hq dX12_count_65 fl_12_9_12 rfl (fun v1 hq => ?_)
        refine st_iconst (pc := 68) (v := (0 : Int32)) dX12_count_68 rfl ?_
        refine st_iload_n (pc := 69) dX12_count_69 rfl ?_
        refine st_iadd (pc := 70) dX12_count_70 ?_
        refine bd_iald (pc := 71) hq dX12_count_71 (fun v2 hq => ?_)
        exact bd_iret (pc := 72) hq dX12_count_72 rfl
      ·
        rw [if_neg c2] at hq
        by_cases c3 : l1 = 3
        ·
          rw [if_pos c3] at hq
          refine st_tin (pc := 1) (tgt := 64) dX12_count_1 (by rw [c3]; decide) (by rw [c3]; decide) (by rw [c3]; rfl) (by decide) ?_
          refine st_aload_n (pc := 64) dX12_count_64 rfl ?_
          refine bd_getr (pc := 65) hq dX12_count_65 fl_12_9_12 rfl (fun v1 hq => ?_)
          refine st_iconst (pc := 68) (v := (0 : Int32)) dX12_count_68 rfl ?_
          refine st_iload_n (pc := 69) dX12_count_69 rfl ?_
          refine st_iadd (pc := 70) dX12_count_70 ?_
          refine bd_iald (pc := 71) hq dX12_count_71 (fun v2 hq => ?_)
          exact bd_iret (pc := 72) hq dX12_count_72 rfl
        ·
          rw [if_neg c3] at hq
          by_cases c4 : l1 = 4
          ·
            rw [if_pos c4] at hq
            refine st_tin (pc := 1) (tgt := 64) dX12_count_1 (by rw [c4]; decide) (by rw [c4]; decide) (by rw [c4]; rfl) (by decide) ?_
            refine st_aload_n (pc := 64) dX12_count_64 rfl ?_
            refine bd_getr (pc := 65) hq dX12_count_65 fl_12_9_12 rfl (fun v1 hq => ?_)
            refine st_iconst (pc := 68) (v := (0 : Int32)) dX12_count_68 rfl ?_
            refine st_iload_n (pc := 69) dX12_count_69 rfl ?_
            refine st_iadd (pc := 70) dX12_count_70 ?_
            refine bd_iald (pc := 71) hq dX12_count_71 (fun v2 hq => ?_)
            exact bd_iret (pc := 72) hq dX12_count_72 rfl
          ·
            rw [if_neg c4] at hq
            by_cases c5 : l1 = 5
            ·
              rw [if_pos c5] at hq
              refine st_tin (pc := 1) (tgt := 73) dX12_count_1 (by rw [c5]; decide) (by rw [c5]; decide) (by rw [c5]; rfl) (by decide) ?_
              refine st_aload_n (pc := 73) dX12_count_73 rfl ?_
              obtain ⟨⟨hbq1, hkq1⟩, hq⟩ := mh_oi hq
              obtain ⟨q1, e1, hq⟩ := mh_ob hq
              refine st_invV (pc := 74) (ci := 12) (vs := []) (rest := []) (st2 := [.int q1.1]) dX12_count_74 okX12_sawMany (by decide) hkq1 hbq1 wd_1721 wd_1723 wp_94 pdX12_sawMany rfl rfl rfl rfl (Nat.le_trans (by decide) hd) (Nat.le_of_ble_eq_true rfl) (T_X12_sawMany (Nat.le_refl _) e1) rfl ?_
              exact bd_iret (pc := 77) hq dX12_count_77 rfl
            ·
              rw [if_neg c5] at hq
              by_cases c6 : l1 = 6
              ·
                rw [if_pos c6] at hq
                refine st_tin (pc := 1) (tgt := 78) dX12_count_1 (by rw [c6]; decide) (by rw [c6]; decide) (by rw [c6]; rfl) (by decide) ?_
                refine st_aload_n (pc := 78) dX12_count_78 rfl ?_
                refine bd_getr (pc := 79) hq dX12_count_79 fl_12_9_12 rfl (fun v1 hq => ?_)
                refine st_bipush (pc := 82) (v := (6 : Int32)) dX12_count_82 (by decide) ?_
                refine bd_iald (pc := 84) hq dX12_count_84 (fun v2 hq => ?_)
                exact bd_iret (pc := 85) hq dX12_count_85 rfl
              ·
                rw [if_neg c6] at hq
                by_cases c7 : l1 = 7
                ·
                  rw [if_pos c7] at hq
                  refine st_tin (pc := 1) (tgt := 86) dX12_count_1 (by rw [c7]; decide) (by rw [c7]; decide) (by rw [c7]; rfl) (by decide) ?_
                  refine st_aload_n (pc := 86) dX12_count_86 rfl ?_
                  refine bd_getr (pc := 87) hq dX12_count_87 fl_12_9_12 rfl (fun v1 hq => ?_)
                  refine st_bipush (pc := 90) (v := (7 : Int32)) dX12_count_90 (by decide) ?_
                  refine bd_iald (pc := 92) hq dX12_count_92 (fun v2 hq => ?_)
                  exact bd_iret (pc := 93) hq dX12_count_93 rfl
                ·
                  rw [if_neg c7] at hq
                  by_cases c8 : l1 = 8
                  ·
                    rw [if_pos c8] at hq
                    refine st_tin (pc := 1) (tgt := 94) dX12_count_1 (by rw [c8]; decide) (by rw [c8]; decide) (by rw [c8]; rfl) (by decide) ?_
                    refine st_aload_n (pc := 94) dX12_count_94 rfl ?_
                    refine bd_geti (pc := 95) hq dX12_count_95 fl_12_306_12 rfl (fun v1 hq => ?_)
                    exact bd_iret (pc := 98) hq dX12_count_98 rfl
                  ·
                    rw [if_neg c8] at hq
                    by_cases c9 : l1 = 9
                    ·
                      rw [if_pos c9] at hq
                      refine st_tin (pc := 1) (tgt := 99) dX12_count_1 (by rw [c9]; decide) (by rw [c9]; decide) (by rw [c9]; rfl) (by decide) ?_
                      refine st_aload_n (pc := 99) dX12_count_99 rfl ?_
                      refine bd_getr (pc := 100) hq dX12_count_100 fl_12_9_12 rfl (fun v1 hq => ?_)
                      refine st_iconst (pc := 103) (v := (5 : Int32)) dX12_count_103 rfl ?_
                      refine bd_iald (pc := 104) hq dX12_count_104 (fun v2 hq => ?_)
                      exact bd_iret (pc := 105) hq dX12_count_105 rfl
                    ·
                      rw [if_neg c9] at hq
                      by_cases c10 : l1 = 10
                      ·
                        rw [if_pos c10] at hq
                        refine st_tin (pc := 1) (tgt := 106) dX12_count_1 (by rw [c10]; decide) (by rw [c10]; decide) (by rw [c10]; rfl) (by decide) ?_
                        refine st_aload_n (pc := 106) dX12_count_106 rfl ?_
                        refine bd_getr (pc := 107) hq dX12_count_107 fl_12_9_12 rfl (fun v1 hq => ?_)
                        refine st_bipush (pc := 110) (v := (8 : Int32)) dX12_count_110 (by decide) ?_
                        refine bd_iald (pc := 112) hq dX12_count_112 (fun v2 hq => ?_)
                        exact bd_iret (pc := 113) hq dX12_count_113 rfl
                      ·
                        rw [if_neg c10] at hq
                        by_cases c11 : l1 = 11
                        ·
                          rw [if_pos c11] at hq
                          refine st_tin (pc := 1) (tgt := 114) dX12_count_1 (by rw [c11]; decide) (by rw [c11]; decide) (by rw [c11]; rfl) (by decide) ?_
                          refine st_aload_n (pc := 114) dX12_count_114 rfl ?_
                          obtain ⟨⟨hbq1, hkq1⟩, hq⟩ := mh_oi hq
                          obtain ⟨q1, e1, hq⟩ := mh_ob hq
                          refine st_invV (pc := 115) (ci := 12) (vs := []) (rest := []) (st2 := [.int q1.1]) dX12_count_115 okX12_water (by decide) hkq1 hbq1 wd_1725 wd_1727 wp_95 pdX12_water rfl rfl rfl rfl (Nat.le_trans (by decide) hd) (Nat.le_of_ble_eq_true rfl) (T_X12_water (Nat.le_refl _) e1) rfl ?_
                          exact bd_iret (pc := 118) hq dX12_count_118 rfl
                        ·
                          rw [if_neg c11] at hq
                          refine st_tout (pc := 1) (tgt := 119) dX12_count_1 (by have e0 := lv_neT c0 (k := 0) (a := 0) (by decide); have e1 := lv_neT c1 (k := 1) (a := 1) (by decide); have e2 := lv_neT c2 (k := 2) (a := 2) (by decide); have e3 := lv_neT c3 (k := 3) (a := 3) (by decide); have e4 := lv_neT c4 (k := 4) (a := 4) (by decide); have e5 := lv_neT c5 (k := 5) (a := 5) (by decide); have e6 := lv_neT c6 (k := 6) (a := 6) (by decide); have e7 := lv_neT c7 (k := 7) (a := 7) (by decide); have e8 := lv_neT c8 (k := 8) (a := 8) (by decide); have e9 := lv_neT c9 (k := 9) (a := 9) (by decide); have e10 := lv_neT c10 (k := 10) (a := 10) (by decide); have e11 := lv_neT c11 (k := 11) (a := 11) (by decide); omega) (by decide) ?_
                          refine st_aload_n (pc := 119) dX12_count_119 rfl ?_
                          refine st_iconst (pc := 120) (v := (1 : Int32)) dX12_count_120 rfl ?_
                          obtain ⟨⟨hbq1, hkq1⟩, hq⟩ := mh_oi hq
                          obtain ⟨q1, e1, hq⟩ := mh_ob hq
                          refine st_invV (pc := 121) (ci := 12) (vs := [.int (1 : Int32)]) (rest := []) (st2 := [.int q1.1]) dX12_count_121 okX12_error (by decide) hkq1 hbq1 wd_1274 wd_1276 wp_37 pdX12_error rfl rfl rfl rfl (Nat.le_trans (by decide) hd) (Nat.le_of_ble_eq_true rfl) (T_X12_error (Nat.le_refl _) e1) rfl ?_
                          exact bd_iret (pc := 124) hq dX12_count_124 rfl
-- HoleWaterModel.told(I)I
theorem dX12_told_0 : decode cX12_told 0 = .ok (.iload_n 1, 1) := by decide +kernel
theorem dX12_told_1 : decode cX12_told 1 = .ok (.i2l, 1) := by decide +kernel
theorem dX12_told_2 : decode cX12_told 2 = .ok (.lconst 1, 1) := by decide +kernel
theorem dX12_told_3 : decode cX12_told 3 = .ok (.ldc2_w 87, 3) := by decide +kernel
theorem dX12_told_6 : decode cX12_told 6 = .ok (.invokestatic 65, 3) := by decide +kernel
theorem dX12_told_9 : decode cX12_told 9 = .ok (.ifCond .eq 12, 3) := by decide +kernel
theorem dX12_told_21 : decode cX12_told 21 = .ok (.aload_n 0, 1) := by decide +kernel
theorem dX12_told_22 : decode cX12_told 22 = .ok (.iconst 1, 1) := by decide +kernel
theorem dX12_told_23 : decode cX12_told 23 = .ok (.invokevirtual 80, 3) := by decide +kernel
theorem dX12_told_26 : decode cX12_told 26 = .ok (.ireturn, 1) := by decide +kernel
theorem dX12_told_12 : decode cX12_told 12 = .ok (.aload_n 0, 1) := by decide +kernel
theorem dX12_told_13 : decode cX12_told 13 = .ok (.getfield 19, 3) := by decide +kernel
theorem dX12_told_16 : decode cX12_told 16 = .ok (.iload_n 1, 1) := by decide +kernel
theorem dX12_told_17 : decode cX12_told 17 = .ok (.iaload, 1) := by decide +kernel
theorem dX12_told_18 : decode cX12_told 18 = .ok (.goto 8, 3) := by decide +kernel
def D_X12_told (N : Nat) (h : mh_H) (l0 : Nat) (l1 : Int32) : Option (Int32 × mh_H) :=
  (D_X12_in N h l1.toInt64 (1 : Int64) (6 : Int64)).bind fun q1 =>
  if q1.1 = 0 then (kO q1.2 12 l0 <|
  (D_X12_error N q1.2 l0 (1 : Int32)).bind fun q2 =>
  some (q2.1, q2.2))
  else ((gR q1.2 12 l0 4).bind fun v2 =>
  (aI q1.2 v2 l1).bind fun v3 =>
  some (v3, q1.2))
set_option maxHeartbeats 4000000 in
set_option maxRecDepth 100000 in
theorem T_X12_told {P : mh_E → Prop} {N d : Nat} (hd : 2 ≤ d) {z : (Int32 × mh_H)} {h : mh_H} {l0 : Nat} {l1 : Int32} (hq : D_X12_told N h l0 l1 = some z) : mh_go P d mX12_told 0 [some (.ref l0), some (.int l1)] [] h (some (.int z.1)) z.2 := by
  unfold D_X12_told at hq
  refine st_iload_n (pc := 0) dX12_told_0 rfl ?_
  refine st_i2l (pc := 1) dX12_told_1 ?_
  refine st_lconst (pc := 2) (v := 1) dX12_told_2 rfl ?_
  refine st_ldc2 (pc := 3) (v := (6 : Int64)) dX12_told_3 wd_1290 ?_
  obtain ⟨q1, e1, hq⟩ := mh_ob hq
  refine st_invS (pc := 6) (Y := mX12_in) (vs := [.long l1.toInt64, .long (1 : Int64), .long (6 : Int64)]) (rest := []) (st2 := [.int q1.1]) dX12_told_6 okX12_in wd_1270 wd_1271 pdX12_in rfl rfl rfl rfl (Nat.le_trans (by decide) hd) (Nat.le_of_ble_eq_true rfl) (T_X12_in (Nat.le_refl _) e1) rfl ?_
  refine bd_if_eq (pc := 9) (tgt := 21) hq dX12_told_9 (by decide) (fun _ hq => ?_) (fun _ hq => ?_)
  ·
    refine st_aload_n (pc := 21) dX12_told_21 rfl ?_
    refine st_iconst (pc := 22) (v := (1 : Int32)) dX12_told_22 rfl ?_
    obtain ⟨⟨hbq2, hkq2⟩, hq⟩ := mh_oi hq
    obtain ⟨q2, e2, hq⟩ := mh_ob hq
    refine st_invV (pc := 23) (ci := 12) (vs := [.int (1 : Int32)]) (rest := []) (st2 := [.int q2.1]) dX12_told_23 okX12_error (by decide) hkq2 hbq2 wd_1274 wd_1276 wp_37 pdX12_error rfl rfl rfl rfl (Nat.le_trans (by decide) hd) (Nat.le_of_ble_eq_true rfl) (T_X12_error (Nat.le_refl _) e2) rfl ?_
    exact bd_iret (pc := 26) hq dX12_told_26 rfl
  ·
    refine st_aload_n (pc := 12) dX12_told_12 rfl ?_
    refine bd_getr (pc := 13) hq dX12_told_13 fl_12_19_12 rfl (fun v2 hq => ?_)
    refine st_iload_n (pc := 16) dX12_told_16 rfl ?_
    refine bd_iald (pc := 17) hq dX12_told_17 (fun v3 hq => ?_)
    refine st_goto (pc := 18) (tgt := 26) dX12_told_18 (by decide) ?_
    exact bd_iret (pc := 26) hq dX12_told_26 rfl
