-- HoleWaterModel.way(IIII)I
theorem dX12_way__71 : decode cX12_way_ 71 = .ok (.aload_n 0, 1) := by decide +kernel
theorem dX12_way__72 : decode cX12_way_ 72 = .ok (.iconst 1, 1) := by decide +kernel
theorem dX12_way__73 : decode cX12_way_ 73 = .ok (.invokevirtual 80, 3) := by decide +kernel
theorem dX12_way__76 : decode cX12_way_ 76 = .ok (.ireturn, 1) := by decide +kernel
theorem dX12_way__95 : decode cX12_way_ 95 = .ok (.aload_n 0, 1) := by decide +kernel
theorem dX12_way__96 : decode cX12_way_ 96 = .ok (.iconst 5, 1) := by decide +kernel
theorem dX12_way__97 : decode cX12_way_ 97 = .ok (.invokevirtual 80, 3) := by decide +kernel
theorem dX12_way__100 : decode cX12_way_ 100 = .ok (.ireturn, 1) := by decide +kernel
theorem dX12_way__165 : decode cX12_way_ 165 = .ok (.iload 9, 2) := by decide +kernel
theorem dX12_way__167 : decode cX12_way_ 167 = .ok (.sipush 215, 3) := by decide +kernel
theorem dX12_way__170 : decode cX12_way_ 170 = .ok (.if_icmp .ge 20, 3) := by decide +kernel
theorem dX12_way__190 : decode cX12_way_ 190 = .ok (.aload_n 0, 1) := by decide +kernel
theorem dX12_way__191 : decode cX12_way_ 191 = .ok (.getfield 9, 3) := by decide +kernel
theorem dX12_way__194 : decode cX12_way_ 194 = .ok (.iload 8, 2) := by decide +kernel
theorem dX12_way__196 : decode cX12_way_ 196 = .ok (.iload_n 1, 1) := by decide +kernel
theorem dX12_way__197 : decode cX12_way_ 197 = .ok (.iastore, 1) := by decide +kernel
theorem dX12_way__198 : decode cX12_way_ 198 = .ok (.aload_n 0, 1) := by decide +kernel
theorem dX12_way__199 : decode cX12_way_ 199 = .ok (.getfield 9, 3) := by decide +kernel
theorem dX12_way__202 : decode cX12_way_ 202 = .ok (.iload 8, 2) := by decide +kernel
theorem dX12_way__204 : decode cX12_way_ 204 = .ok (.iconst 1, 1) := by decide +kernel
theorem dX12_way__205 : decode cX12_way_ 205 = .ok (.iadd, 1) := by decide +kernel
theorem dX12_way__206 : decode cX12_way_ 206 = .ok (.iload 5, 2) := by decide +kernel
theorem dX12_way__208 : decode cX12_way_ 208 = .ok (.iastore, 1) := by decide +kernel
theorem dX12_way__209 : decode cX12_way_ 209 = .ok (.aload_n 0, 1) := by decide +kernel
theorem dX12_way__210 : decode cX12_way_ 210 = .ok (.getfield 9, 3) := by decide +kernel
theorem dX12_way__213 : decode cX12_way_ 213 = .ok (.iload 8, 2) := by decide +kernel
theorem dX12_way__215 : decode cX12_way_ 215 = .ok (.iconst 2, 1) := by decide +kernel
theorem dX12_way__216 : decode cX12_way_ 216 = .ok (.iadd, 1) := by decide +kernel
theorem dX12_way__217 : decode cX12_way_ 217 = .ok (.iload 6, 2) := by decide +kernel
theorem dX12_way__219 : decode cX12_way_ 219 = .ok (.iastore, 1) := by decide +kernel
theorem dX12_way__220 : decode cX12_way_ 220 = .ok (.aload_n 0, 1) := by decide +kernel
theorem dX12_way__221 : decode cX12_way_ 221 = .ok (.getfield 9, 3) := by decide +kernel
theorem dX12_way__224 : decode cX12_way_ 224 = .ok (.iload 8, 2) := by decide +kernel
theorem dX12_way__226 : decode cX12_way_ 226 = .ok (.iconst 3, 1) := by decide +kernel
theorem dX12_way__227 : decode cX12_way_ 227 = .ok (.iadd, 1) := by decide +kernel
theorem dX12_way__228 : decode cX12_way_ 228 = .ok (.iload_n 3, 1) := by decide +kernel
theorem dX12_way__229 : decode cX12_way_ 229 = .ok (.iastore, 1) := by decide +kernel
theorem dX12_way__230 : decode cX12_way_ 230 = .ok (.aload_n 0, 1) := by decide +kernel
theorem dX12_way__231 : decode cX12_way_ 231 = .ok (.getfield 9, 3) := by decide +kernel
theorem dX12_way__234 : decode cX12_way_ 234 = .ok (.iload 8, 2) := by decide +kernel
theorem dX12_way__236 : decode cX12_way_ 236 = .ok (.iconst 4, 1) := by decide +kernel
theorem dX12_way__237 : decode cX12_way_ 237 = .ok (.iadd, 1) := by decide +kernel
theorem dX12_way__238 : decode cX12_way_ 238 = .ok (.iload 4, 2) := by decide +kernel
theorem dX12_way__240 : decode cX12_way_ 240 = .ok (.iastore, 1) := by decide +kernel
theorem dX12_way__241 : decode cX12_way_ 241 = .ok (.aload_n 0, 1) := by decide +kernel
theorem dX12_way__242 : decode cX12_way_ 242 = .ok (.getfield 9, 3) := by decide +kernel
theorem dX12_way__245 : decode cX12_way_ 245 = .ok (.iconst 2, 1) := by decide +kernel
theorem dX12_way__246 : decode cX12_way_ 246 = .ok (.dup2, 1) := by decide +kernel
theorem dX12_way__247 : decode cX12_way_ 247 = .ok (.iaload, 1) := by decide +kernel
theorem dX12_way__248 : decode cX12_way_ 248 = .ok (.iconst 1, 1) := by decide +kernel
theorem dX12_way__249 : decode cX12_way_ 249 = .ok (.iadd, 1) := by decide +kernel
theorem dX12_way__250 : decode cX12_way_ 250 = .ok (.iastore, 1) := by decide +kernel
theorem dX12_way__251 : decode cX12_way_ 251 = .ok (.iload 7, 2) := by decide +kernel
theorem dX12_way__253 : decode cX12_way_ 253 = .ok (.ireturn, 1) := by decide +kernel
theorem dX12_way__173 : decode cX12_way_ 173 = .ok (.aload_n 0, 1) := by decide +kernel
theorem dX12_way__174 : decode cX12_way_ 174 = .ok (.getfield 9, 3) := by decide +kernel
theorem dX12_way__177 : decode cX12_way_ 177 = .ok (.iload 8, 2) := by decide +kernel
theorem dX12_way__179 : decode cX12_way_ 179 = .ok (.iload 9, 2) := by decide +kernel
theorem dX12_way__181 : decode cX12_way_ 181 = .ok (.iadd, 1) := by decide +kernel
theorem dX12_way__182 : decode cX12_way_ 182 = .ok (.iconst 0, 1) := by decide +kernel
theorem dX12_way__183 : decode cX12_way_ 183 = .ok (.iastore, 1) := by decide +kernel
theorem dX12_way__184 : decode cX12_way_ 184 = .ok (.iinc 9 1, 3) := by decide +kernel
theorem dX12_way__187 : decode cX12_way_ 187 = .ok (.goto (-22), 3) := by decide +kernel
theorem dX12_way__0 : decode cX12_way_ 0 = .ok (.iload_n 2, 1) := by decide +kernel
theorem dX12_way__1 : decode cX12_way_ 1 = .ok (.bipush 100, 2) := by decide +kernel
theorem dX12_way__3 : decode cX12_way_ 3 = .ok (.idiv, 1) := by decide +kernel
theorem dX12_way__4 : decode cX12_way_ 4 = .ok (.istore 5, 2) := by decide +kernel
theorem dX12_way__6 : decode cX12_way_ 6 = .ok (.iload_n 2, 1) := by decide +kernel
theorem dX12_way__7 : decode cX12_way_ 7 = .ok (.bipush 100, 2) := by decide +kernel
theorem dX12_way__9 : decode cX12_way_ 9 = .ok (.irem, 1) := by decide +kernel
theorem dX12_way__10 : decode cX12_way_ 10 = .ok (.istore 6, 2) := by decide +kernel
theorem dX12_way__12 : decode cX12_way_ 12 = .ok (.iload_n 1, 1) := by decide +kernel
theorem dX12_way__13 : decode cX12_way_ 13 = .ok (.i2l, 1) := by decide +kernel
theorem dX12_way__14 : decode cX12_way_ 14 = .ok (.lconst 0, 1) := by decide +kernel
theorem dX12_way__15 : decode cX12_way_ 15 = .ok (.ldc2_w 89, 3) := by decide +kernel
theorem dX12_way__18 : decode cX12_way_ 18 = .ok (.invokestatic 65, 3) := by decide +kernel
theorem dX12_way__21 : decode cX12_way_ 21 = .ok (.ifCond .eq 50, 3) := by decide +kernel
theorem dX12_way__24 : decode cX12_way_ 24 = .ok (.iload_n 2, 1) := by decide +kernel
theorem dX12_way__25 : decode cX12_way_ 25 = .ok (.ifCond .lt 46, 3) := by decide +kernel
theorem dX12_way__28 : decode cX12_way_ 28 = .ok (.aload_n 0, 1) := by decide +kernel
theorem dX12_way__29 : decode cX12_way_ 29 = .ok (.iload 5, 2) := by decide +kernel
theorem dX12_way__31 : decode cX12_way_ 31 = .ok (.invokevirtual 83, 3) := by decide +kernel
theorem dX12_way__34 : decode cX12_way_ 34 = .ok (.ifCond .eq 37, 3) := by decide +kernel
theorem dX12_way__37 : decode cX12_way_ 37 = .ok (.aload_n 0, 1) := by decide +kernel
theorem dX12_way__38 : decode cX12_way_ 38 = .ok (.iload 6, 2) := by decide +kernel
theorem dX12_way__40 : decode cX12_way_ 40 = .ok (.invokevirtual 83, 3) := by decide +kernel
theorem dX12_way__43 : decode cX12_way_ 43 = .ok (.ifCond .eq 28, 3) := by decide +kernel
theorem dX12_way__46 : decode cX12_way_ 46 = .ok (.iload_n 3, 1) := by decide +kernel
theorem dX12_way__47 : decode cX12_way_ 47 = .ok (.i2l, 1) := by decide +kernel
theorem dX12_way__48 : decode cX12_way_ 48 = .ok (.lconst 1, 1) := by decide +kernel
theorem dX12_way__49 : decode cX12_way_ 49 = .ok (.ldc2_w 91, 3) := by decide +kernel
theorem dX12_way__52 : decode cX12_way_ 52 = .ok (.invokestatic 65, 3) := by decide +kernel
theorem dX12_way__55 : decode cX12_way_ 55 = .ok (.ifCond .eq 16, 3) := by decide +kernel
theorem dX12_way__58 : decode cX12_way_ 58 = .ok (.iload 4, 2) := by decide +kernel
theorem dX12_way__60 : decode cX12_way_ 60 = .ok (.i2l, 1) := by decide +kernel
theorem dX12_way__61 : decode cX12_way_ 61 = .ok (.lconst 1, 1) := by decide +kernel
theorem dX12_way__62 : decode cX12_way_ 62 = .ok (.ldc2_w 78, 3) := by decide +kernel
theorem dX12_way__65 : decode cX12_way_ 65 = .ok (.invokestatic 65, 3) := by decide +kernel
theorem dX12_way__68 : decode cX12_way_ 68 = .ok (.ifCond .ne 9, 3) := by decide +kernel
theorem dX12_way__77 : decode cX12_way_ 77 = .ok (.aload_n 0, 1) := by decide +kernel
theorem dX12_way__78 : decode cX12_way_ 78 = .ok (.iload 5, 2) := by decide +kernel
theorem dX12_way__80 : decode cX12_way_ 80 = .ok (.invokevirtual 93, 3) := by decide +kernel
theorem dX12_way__83 : decode cX12_way_ 83 = .ok (.ifCond .ne 12, 3) := by decide +kernel
theorem dX12_way__86 : decode cX12_way_ 86 = .ok (.aload_n 0, 1) := by decide +kernel
theorem dX12_way__87 : decode cX12_way_ 87 = .ok (.iload 6, 2) := by decide +kernel
theorem dX12_way__89 : decode cX12_way_ 89 = .ok (.invokevirtual 96, 3) := by decide +kernel
theorem dX12_way__92 : decode cX12_way_ 92 = .ok (.ifCond .eq 9, 3) := by decide +kernel
theorem dX12_way__101 : decode cX12_way_ 101 = .ok (.aload_n 0, 1) := by decide +kernel
theorem dX12_way__102 : decode cX12_way_ 102 = .ok (.getfield 9, 3) := by decide +kernel
theorem dX12_way__105 : decode cX12_way_ 105 = .ok (.iload 5, 2) := by decide +kernel
theorem dX12_way__107 : decode cX12_way_ 107 = .ok (.invokestatic 71, 3) := by decide +kernel
theorem dX12_way__110 : decode cX12_way_ 110 = .ok (.iconst 2, 1) := by decide +kernel
theorem dX12_way__111 : decode cX12_way_ 111 = .ok (.iadd, 1) := by decide +kernel
theorem dX12_way__112 : decode cX12_way_ 112 = .ok (.iaload, 1) := by decide +kernel
theorem dX12_way__113 : decode cX12_way_ 113 = .ok (.aload_n 0, 1) := by decide +kernel
theorem dX12_way__114 : decode cX12_way_ 114 = .ok (.getfield 9, 3) := by decide +kernel
theorem dX12_way__117 : decode cX12_way_ 117 = .ok (.iload 6, 2) := by decide +kernel
theorem dX12_way__119 : decode cX12_way_ 119 = .ok (.invokestatic 71, 3) := by decide +kernel
theorem dX12_way__122 : decode cX12_way_ 122 = .ok (.iconst 2, 1) := by decide +kernel
theorem dX12_way__123 : decode cX12_way_ 123 = .ok (.iadd, 1) := by decide +kernel
theorem dX12_way__124 : decode cX12_way_ 124 = .ok (.iaload, 1) := by decide +kernel
theorem dX12_way__125 : decode cX12_way_ 125 = .ok (.if_icmp .gt 9, 3) := by decide +kernel
theorem dX12_way__134 : decode cX12_way_ 134 = .ok (.aload_n 0, 1) := by decide +kernel
theorem dX12_way__135 : decode cX12_way_ 135 = .ok (.getfield 9, 3) := by decide +kernel
theorem dX12_way__138 : decode cX12_way_ 138 = .ok (.iconst 2, 1) := by decide +kernel
theorem dX12_way__139 : decode cX12_way_ 139 = .ok (.iaload, 1) := by decide +kernel
theorem dX12_way__140 : decode cX12_way_ 140 = .ok (.istore 7, 2) := by decide +kernel
theorem dX12_way__142 : decode cX12_way_ 142 = .ok (.iload 7, 2) := by decide +kernel
theorem dX12_way__144 : decode cX12_way_ 144 = .ok (.bipush 24, 2) := by decide +kernel
theorem dX12_way__146 : decode cX12_way_ 146 = .ok (.if_icmp .ne 9, 3) := by decide +kernel
theorem dX12_way__149 : decode cX12_way_ 149 = .ok (.aload_n 0, 1) := by decide +kernel
theorem dX12_way__150 : decode cX12_way_ 150 = .ok (.iconst 4, 1) := by decide +kernel
theorem dX12_way__151 : decode cX12_way_ 151 = .ok (.invokevirtual 80, 3) := by decide +kernel
theorem dX12_way__154 : decode cX12_way_ 154 = .ok (.ireturn, 1) := by decide +kernel
theorem dX12_way__155 : decode cX12_way_ 155 = .ok (.iload 7, 2) := by decide +kernel
theorem dX12_way__157 : decode cX12_way_ 157 = .ok (.invokestatic 99, 3) := by decide +kernel
theorem dX12_way__160 : decode cX12_way_ 160 = .ok (.istore 8, 2) := by decide +kernel
theorem dX12_way__162 : decode cX12_way_ 162 = .ok (.iconst 0, 1) := by decide +kernel
theorem dX12_way__163 : decode cX12_way_ 163 = .ok (.istore 9, 2) := by decide +kernel
theorem dX12_way__128 : decode cX12_way_ 128 = .ok (.aload_n 0, 1) := by decide +kernel
theorem dX12_way__129 : decode cX12_way_ 129 = .ok (.iconst 3, 1) := by decide +kernel
theorem dX12_way__130 : decode cX12_way_ 130 = .ok (.invokevirtual 80, 3) := by decide +kernel
theorem dX12_way__133 : decode cX12_way_ 133 = .ok (.ireturn, 1) := by decide +kernel
def D_X12_way__71 (N : Nat) (h : mh_H) (l0 : Nat) : Option (Int32 × mh_H) :=
  kO h 12 l0 <|
  (D_X12_error N h l0 (1 : Int32)).bind fun q1 =>
  some (q1.1, q1.2)
set_option maxHeartbeats 4000000 in
set_option maxRecDepth 100000 in
theorem T_X12_way__71 {P : mh_E → Prop} {N d : Nat} (hd : 4 ≤ d) {z : (Int32 × mh_H)} {h : mh_H} {l0 : Nat} (hq : D_X12_way__71 N h l0 = some z) : mh_go P d mX12_way_ 71 [some (.ref l0), none, none, none, none, none, none, none, none, none] [] h (some (.int z.1)) z.2 := by
  unfold D_X12_way__71 at hq
  refine st_aload_n (pc := 71) dX12_way__71 rfl ?_
  refine st_iconst (pc := 72) (v := (1 : Int32)) dX12_way__72 rfl ?_
  obtain ⟨⟨hbq1, hkq1⟩, hq⟩ := mh_oi hq
  obtain ⟨q1, e1, hq⟩ := mh_ob hq
  refine st_invV (pc := 73) (ci := 12) (vs := [.int (1 : Int32)]) (rest := []) (st2 := [.int q1.1]) dX12_way__73 okX12_error (by decide) hkq1 hbq1 wd_1274 wd_1276 wp_37 pdX12_error rfl rfl rfl rfl (Nat.le_trans (by decide) hd) (Nat.le_of_ble_eq_true rfl) (T_X12_error (Nat.le_refl _) e1) rfl ?_
  exact bd_iret (pc := 76) hq dX12_way__76 rfl
def D_X12_way__95 (N : Nat) (h : mh_H) (l0 : Nat) : Option (Int32 × mh_H) :=
  kO h 12 l0 <|
  (D_X12_error N h l0 (5 : Int32)).bind fun q1 =>
  some (q1.1, q1.2)
set_option maxHeartbeats 4000000 in
set_option maxRecDepth 100000 in
theorem T_X12_way__95 {P : mh_E → Prop} {N d : Nat} (hd : 4 ≤ d) {z : (Int32 × mh_H)} {h : mh_H} {l0 : Nat} (hq : D_X12_way__95 N h l0 = some z) : mh_go P d mX12_way_ 95 [some (.ref l0), none, none, none, none, none, none, none, none, none] [] h (some (.int z.1)) z.2 := by
  unfold D_X12_way__95 at hq
  refine st_aload_n (pc := 95) dX12_way__95 rfl ?_
  refine st_iconst (pc := 96) (v := (5 : Int32)) dX12_way__96 rfl ?_
  obtain ⟨⟨hbq1, hkq1⟩, hq⟩ := mh_oi hq
  obtain ⟨q1, e1, hq⟩ := mh_ob hq
  refine st_invV (pc := 97) (ci := 12) (vs := [.int (5 : Int32)]) (rest := []) (st2 := [.int q1.1]) dX12_way__97 okX12_error (by decide) hkq1 hbq1 wd_1274 wd_1276 wp_37 pdX12_error rfl rfl rfl rfl (Nat.le_trans (by decide) hd) (Nat.le_of_ble_eq_true rfl) (T_X12_error (Nat.le_refl _) e1) rfl ?_
  exact bd_iret (pc := 100) hq dX12_way__100 rfl
def D_X12_way__165 (N : Nat) : Nat → mh_H → Nat → Int32 → Int32 → Int32 → Int32 → Int32 → Int32 → Int32 → Int32 → Option (Int32 × mh_H)
  | 0, _, _, _, _, _, _, _, _, _, _ => none
  | F + 1, h, l0, l1, l3, l4, l5, l6, l7, l8, l9 =>
    if (215 : Int32) ≤ l9 then ((gR h 12 l0 0).bind fun v1 =>
    (uI h v1 l8 l1).bind fun h2 =>
    (gR h2 12 l0 0).bind fun v3 =>
    (uI h2 v3 (l8 + (1 : Int32)) l5).bind fun h4 =>
    (gR h4 12 l0 0).bind fun v5 =>
    (uI h4 v5 (l8 + (2 : Int32)) l6).bind fun h6 =>
    (gR h6 12 l0 0).bind fun v7 =>
    (uI h6 v7 (l8 + (3 : Int32)) l3).bind fun h8 =>
    (gR h8 12 l0 0).bind fun v9 =>
    (uI h8 v9 (l8 + (4 : Int32)) l4).bind fun h10 =>
    (gR h10 12 l0 0).bind fun v11 =>
    (aI h10 v11 (2 : Int32)).bind fun v12 =>
    (uI h10 v11 (2 : Int32) (v12 + (1 : Int32))).bind fun h13 =>
    some (l7, h13))
    else ((gR h 12 l0 0).bind fun v1 =>
    (uI h v1 (l8 + l9) (0 : Int32)).bind fun h2 =>
    (D_X12_way__165 N F) h2 l0 l1 l3 l4 l5 l6 l7 l8 (l9 + Int32.ofInt (1)))
set_option maxHeartbeats 4000000 in
set_option maxRecDepth 100000 in
theorem T_X12_way__165 {P : mh_E → Prop} {N d : Nat} (hd : 4 ≤ d) {z : (Int32 × mh_H)} : ∀ (F : Nat) (h : mh_H) (l0 : Nat) (l1 : Int32) (l3 : Int32) (l4 : Int32) (l5 : Int32) (l6 : Int32) (l7 : Int32) (l8 : Int32) (l9 : Int32), D_X12_way__165 N F h l0 l1 l3 l4 l5 l6 l7 l8 l9 = some z → mh_go P d mX12_way_ 165 [some (.ref l0), some (.int l1), none, some (.int l3), some (.int l4), some (.int l5), some (.int l6), some (.int l7), some (.int l8), some (.int l9)] [] h (some (.int z.1)) z.2 := by
  intro F
  induction F with
  | zero => intro h l0 l1 l3 l4 l5 l6 l7 l8 l9 hq; rw [D_X12_way__165] at hq; cases hq
  | succ F ih =>
    intro h l0 l1 l3 l4 l5 l6 l7 l8 l9 hq
    rw [D_X12_way__165] at hq
    refine st_iload (pc := 165) dX12_way__165 rfl ?_
    refine st_sipush (pc := 167) (v := (215 : Int32)) dX12_way__167 (by decide) ?_
    refine bd_icmp_ge (pc := 170) (tgt := 190) hq dX12_way__170 (by decide) (fun _ hq => ?_) (fun _ hq => ?_)
    ·
      refine st_aload_n (pc := 190) dX12_way__190 rfl ?_
      refine bd_getr (pc := 191) hq dX12_way__191 fl_12_9_12 rfl (fun v1 hq => ?_)
      refine st_iload (pc := 194) dX12_way__194 rfl ?_
      refine st_iload_n (pc := 196) dX12_way__196 rfl ?_
      refine bd_iast (pc := 197) hq dX12_way__197 (fun h2 hq => ?_)
      refine st_aload_n (pc := 198) dX12_way__198 rfl ?_
      refine bd_getr (pc := 199) hq dX12_way__199 fl_12_9_12 rfl (fun v3 hq => ?_)
      refine st_iload (pc := 202) dX12_way__202 rfl ?_
      refine st_iconst (pc := 204) (v := (1 : Int32)) dX12_way__204 rfl ?_
      refine st_iadd (pc := 205) dX12_way__205 ?_
      refine st_iload (pc := 206) dX12_way__206 rfl ?_
      refine bd_iast (pc := 208) hq dX12_way__208 (fun h4 hq => ?_)
      refine st_aload_n (pc := 209) dX12_way__209 rfl ?_
      refine bd_getr (pc := 210) hq dX12_way__210 fl_12_9_12 rfl (fun v5 hq => ?_)
      refine st_iload (pc := 213) dX12_way__213 rfl ?_
      refine st_iconst (pc := 215) (v := (2 : Int32)) dX12_way__215 rfl ?_
      refine st_iadd (pc := 216) dX12_way__216 ?_
      refine st_iload (pc := 217) dX12_way__217 rfl ?_
      refine bd_iast (pc := 219) hq dX12_way__219 (fun h6 hq => ?_)
      refine st_aload_n (pc := 220) dX12_way__220 rfl ?_
      refine bd_getr (pc := 221) hq dX12_way__221 fl_12_9_12 rfl (fun v7 hq => ?_)
      refine st_iload (pc := 224) dX12_way__224 rfl ?_
      refine st_iconst (pc := 226) (v := (3 : Int32)) dX12_way__226 rfl ?_
      refine st_iadd (pc := 227) dX12_way__227 ?_
      refine st_iload_n (pc := 228) dX12_way__228 rfl ?_
      refine bd_iast (pc := 229) hq dX12_way__229 (fun h8 hq => ?_)
      refine st_aload_n (pc := 230) dX12_way__230 rfl ?_
      refine bd_getr (pc := 231) hq dX12_way__231 fl_12_9_12 rfl (fun v9 hq => ?_)
      refine st_iload (pc := 234) dX12_way__234 rfl ?_
      refine st_iconst (pc := 236) (v := (4 : Int32)) dX12_way__236 rfl ?_
      refine st_iadd (pc := 237) dX12_way__237 ?_
      refine st_iload (pc := 238) dX12_way__238 rfl ?_
      refine bd_iast (pc := 240) hq dX12_way__240 (fun h10 hq => ?_)
      refine st_aload_n (pc := 241) dX12_way__241 rfl ?_
      refine bd_getr (pc := 242) hq dX12_way__242 fl_12_9_12 rfl (fun v11 hq => ?_)
      refine st_iconst (pc := 245) (v := (2 : Int32)) dX12_way__245 rfl ?_
      refine st_dup2 (pc := 246) dX12_way__246 rfl rfl ?_
      refine bd_iald (pc := 247) hq dX12_way__247 (fun v12 hq => ?_)
      refine st_iconst (pc := 248) (v := (1 : Int32)) dX12_way__248 rfl ?_
      refine st_iadd (pc := 249) dX12_way__249 ?_
      refine bd_iast (pc := 250) hq dX12_way__250 (fun h13 hq => ?_)
      refine st_iload (pc := 251) dX12_way__251 rfl ?_
      exact bd_iret (pc := 253) hq dX12_way__253 rfl
    ·
      refine st_aload_n (pc := 173) dX12_way__173 rfl ?_
      refine bd_getr (pc := 174) hq dX12_way__174 fl_12_9_12 rfl (fun v1 hq => ?_)
      refine st_iload (pc := 177) dX12_way__177 rfl ?_
      refine st_iload (pc := 179) dX12_way__179 rfl ?_
      refine st_iadd (pc := 181) dX12_way__181 ?_
      refine st_iconst (pc := 182) (v := (0 : Int32)) dX12_way__182 rfl ?_
      refine bd_iast (pc := 183) hq dX12_way__183 (fun h2 hq => ?_)
      refine st_iinc (pc := 184) (lv' := [some (.ref l0), some (.int l1), none, some (.int l3), some (.int l4), some (.int l5), some (.int l6), some (.int l7), some (.int l8), some (.int (l9 + Int32.ofInt (1)))]) dX12_way__184 rfl rfl (by decide) rfl ?_
      refine st_goto (pc := 187) (tgt := 165) dX12_way__187 (by decide) ?_
      exact ih _ _ _ _ _ _ _ _ _ _ hq
def D_X12_way_ (N : Nat) (h : mh_H) (l0 : Nat) (l1 : Int32) (l2 : Int32) (l3 : Int32) (l4 : Int32) : Option (Int32 × mh_H) :=
  dN (100 : Int32) <|
  dN (100 : Int32) <|
  (D_X12_in N h l1.toInt64 (0 : Int64) (5 : Int64)).bind fun q1 =>
  if q1.1 = 0 then (D_X12_way__71 N q1.2 l0)
  else (if l2 < 0 then (D_X12_way__71 N q1.2 l0)
  else (kO q1.2 12 l0 <|
  (D_X12_isJoint N q1.2 l0 (l2 / (100 : Int32))).bind fun q2 =>
  if q2.1 = 0 then (D_X12_way__71 N q2.2 l0)
  else (kO q2.2 12 l0 <|
  (D_X12_isJoint N q2.2 l0 (l2 - l2 / (100 : Int32) * (100 : Int32))).bind fun q3 =>
  if q3.1 = 0 then (D_X12_way__71 N q3.2 l0)
  else ((D_X12_in N q3.2 l3.toInt64 (1 : Int64) (20 : Int64)).bind fun q4 =>
  if q4.1 = 0 then (D_X12_way__71 N q4.2 l0)
  else ((D_X12_in N q4.2 l4.toInt64 (1 : Int64) (99 : Int64)).bind fun q5 =>
  if q5.1 = 0 then (D_X12_way__71 N q5.2 l0)
  else (kO q5.2 12 l0 <|
  (D_X12_isEnd N q5.2 l0 (l2 / (100 : Int32))).bind fun q6 =>
  if q6.1 = 0 then (kO q6.2 12 l0 <|
  (D_X12_isHole N q6.2 l0 (l2 - l2 / (100 : Int32) * (100 : Int32))).bind fun q7 =>
  if q7.1 = 0 then ((gR q7.2 12 l0 0).bind fun v8 =>
  (D_X12_joint N q7.2 (l2 / (100 : Int32))).bind fun q9 =>
  (aI q9.2 v8 (q9.1 + (2 : Int32))).bind fun v10 =>
  (gR q9.2 12 l0 0).bind fun v11 =>
  (D_X12_joint N q9.2 (l2 - l2 / (100 : Int32) * (100 : Int32))).bind fun q12 =>
  (aI q12.2 v11 (q12.1 + (2 : Int32))).bind fun v13 =>
  if v13 < v10 then ((gR q12.2 12 l0 0).bind fun v14 =>
  (aI q12.2 v14 (2 : Int32)).bind fun v15 =>
  if v15 = (24 : Int32) then (kO q12.2 12 l0 <|
  (D_X12_error N q12.2 l0 (4 : Int32)).bind fun q16 =>
  some (q16.1, q16.2))
  else ((D_X12_way N q12.2 v15).bind fun q16 =>
  D_X12_way__165 N N q16.2 l0 l1 l3 l4 (l2 / (100 : Int32)) (l2 - l2 / (100 : Int32) * (100 : Int32)) v15 q16.1 (0 : Int32)))
  else (kO q12.2 12 l0 <|
  (D_X12_error N q12.2 l0 (3 : Int32)).bind fun q14 =>
  some (q14.1, q14.2)))
  else (D_X12_way__95 N q7.2 l0))
  else (D_X12_way__95 N q6.2 l0)))))))
set_option maxHeartbeats 4000000 in
set_option maxRecDepth 100000 in
theorem T_X12_way_ {P : mh_E → Prop} {N d : Nat} (hd : 4 ≤ d) {z : (Int32 × mh_H)} {h : mh_H} {l0 : Nat} {l1 : Int32} {l2 : Int32} {l3 : Int32} {l4 : Int32} (hq : D_X12_way_ N h l0 l1 l2 l3 l4 = some z) : mh_go P d mX12_way_ 0 [some (.ref l0), some (.int l1), some (.int l2), some (.int l3), some (.int l4), none, none, none, none, none] [] h (some (.int z.1)) z.2 := by
  unfold D_X12_way_ at hq
  refine st_iload_n (pc := 0) dX12_way__0 rfl ?_
  refine st_bipush (pc := 1) (v := (100 : Int32)) dX12_way__1 (by decide) ?_
  refine bd_idiv (pc := 3) hq dX12_way__3 (fun hq => ?_)
  refine st_istore (pc := 4) (lv' := [some (.ref l0), some (.int l1), some (.int l2), some (.int l3), some (.int l4), some (.int (l2 / (100 : Int32))), none, none, none, none]) dX12_way__4 rfl (by decide) rfl ?_
  refine st_iload_n (pc := 6) dX12_way__6 rfl ?_
  refine st_bipush (pc := 7) (v := (100 : Int32)) dX12_way__7 (by decide) ?_
  refine bd_irem (pc := 9) hq dX12_way__9 (fun hq => ?_)
  refine st_istore (pc := 10) (lv' := [some (.ref l0), some (.int l1), some (.int l2), some (.int l3), some (.int l4), some (.int (l2 / (100 : Int32))), some (.int (l2 - l2 / (100 : Int32) * (100 : Int32))), none, none, none]) dX12_way__10 rfl (by decide) rfl ?_
  refine st_iload_n (pc := 12) dX12_way__12 rfl ?_
  refine st_i2l (pc := 13) dX12_way__13 ?_
  refine st_lconst (pc := 14) (v := 0) dX12_way__14 rfl ?_
  refine st_ldc2 (pc := 15) (v := (5 : Int64)) dX12_way__15 wd_1295 ?_
  obtain ⟨q1, e1, hq⟩ := mh_ob hq
  refine st_invS (pc := 18) (Y := mX12_in) (vs := [.long l1.toInt64, .long (0 : Int64), .long (5 : Int64)]) (rest := []) (st2 := [.int q1.1]) dX12_way__18 okX12_in wd_1270 wd_1271 pdX12_in rfl rfl rfl rfl (Nat.le_trans (by decide) hd) (Nat.le_of_ble_eq_true rfl) (T_X12_in (Nat.le_refl _) e1) rfl ?_
  refine bd_if_eq (pc := 21) (tgt := 71) hq dX12_way__21 (by decide) (fun _ hq => ?_) (fun _ hq => ?_)
  ·
    refine st_lesS (lv' := [some (.ref l0), none, none, none, none, none, none, none, none, none]) ⟨Or.inr rfl, Or.inl rfl, Or.inl rfl, Or.inl rfl, Or.inl rfl, Or.inl rfl, Or.inl rfl, Or.inr rfl, Or.inr rfl, Or.inr rfl, trivial⟩ ?_
    exact T_X12_way__71 hd hq
  ·
    refine st_iload_n (pc := 24) dX12_way__24 rfl ?_
    refine bd_if_lt (pc := 25) (tgt := 71) hq dX12_way__25 (by decide) (fun _ hq => ?_) (fun _ hq => ?_)
    ·
      refine st_lesS (lv' := [some (.ref l0), none, none, none, none, none, none, none, none, none]) ⟨Or.inr rfl, Or.inl rfl, Or.inl rfl, Or.inl rfl, Or.inl rfl, Or.inl rfl, Or.inl rfl, Or.inr rfl, Or.inr rfl, Or.inr rfl, trivial⟩ ?_
      exact T_X12_way__71 hd hq
    ·
      refine st_aload_n (pc := 28) dX12_way__28 rfl ?_
      refine st_iload (pc := 29) dX12_way__29 rfl ?_
      obtain ⟨⟨hbq2, hkq2⟩, hq⟩ := mh_oi hq
      obtain ⟨q2, e2, hq⟩ := mh_ob hq
      refine st_invV (pc := 31) (ci := 12) (vs := [.int (l2 / (100 : Int32))]) (rest := []) (st2 := [.int q2.1]) dX12_way__31 okX12_isJoint (by decide) hkq2 hbq2 wd_1286 wd_1288 wp_38 pdX12_isJoint rfl rfl rfl rfl (Nat.le_trans (by decide) hd) (Nat.le_of_ble_eq_true rfl) (T_X12_isJoint (Nat.le_refl _) e2) rfl ?_
      refine bd_if_eq (pc := 34) (tgt := 71) hq dX12_way__34 (by decide) (fun _ hq => ?_) (fun _ hq => ?_)
      ·
        refine st_lesS (lv' := [some (.ref l0), none, none, none, none, none, none, none, none, none]) ⟨Or.inr rfl, Or.inl rfl, Or.inl rfl, Or.inl rfl, Or.inl rfl, Or.inl rfl, Or.inl rfl, Or.inr rfl, Or.inr rfl, Or.inr rfl, trivial⟩ ?_
        exact T_X12_way__71 hd hq
      ·
        refine st_aload_n (pc := 37) dX12_way__37 rfl ?_
        refine st_iload (pc := 38) dX12_way__38 rfl ?_
        obtain ⟨⟨hbq3, hkq3⟩, hq⟩ := mh_oi hq
        obtain ⟨q3, e3, hq⟩ := mh_ob hq
        refine st_invV (pc := 40) (ci := 12) (vs := [.int (l2 - l2 / (100 : Int32) * (100 : Int32))]) (rest := []) (st2 := [.int q3.1]) dX12_way__40 okX12_isJoint (by decide) hkq3 hbq3 wd_1286 wd_1288 wp_38 pdX12_isJoint rfl rfl rfl rfl (Nat.le_trans (by decide) hd) (Nat.le_of_ble_eq_true rfl) (T_X12_isJoint (Nat.le_refl _) e3) rfl ?_
        refine bd_if_eq (pc := 43) (tgt := 71) hq dX12_way__43 (by decide) (fun _ hq => ?_) (fun _ hq => ?_)
        ·
          refine st_lesS (lv' := [some (.ref l0), none, none, none, none, none, none, none, none, none]) ⟨Or.inr rfl, Or.inl rfl, Or.inl rfl, Or.inl rfl, Or.inl rfl, Or.inl rfl, Or.inl rfl, Or.inr rfl, Or.inr rfl, Or.inr rfl, trivial⟩ ?_
          exact T_X12_way__71 hd hq
        ·
          refine st_iload_n (pc := 46) dX12_way__46 rfl ?_
          refine st_i2l (pc := 47) dX12_way__47 ?_
          refine st_lconst (pc := 48) (v := 1) dX12_way__48 rfl ?_
          refine st_ldc2 (pc := 49) (v := (20 : Int64)) dX12_way__49 wd_1296 ?_
          obtain ⟨q4, e4, hq⟩ := mh_ob hq
          refine st_invS (pc := 52) (Y := mX12_in) (vs := [.long l3.toInt64, .long (1 : Int64), .long (20 : Int64)]) (rest := []) (st2 := [.int q4.1]) dX12_way__52 okX12_in wd_1270 wd_1271 pdX12_in rfl rfl rfl rfl (Nat.le_trans (by decide) hd) (Nat.le_of_ble_eq_true rfl) (T_X12_in (Nat.le_refl _) e4) rfl ?_
          refine bd_if_eq (pc := 55) (tgt := 71) hq dX12_way__55 (by decide) (fun _ hq => ?_) (fun _ hq => ?_)
          ·
            refine st_lesS (lv' := [some (.ref l0), none, none, none, none, none, none, none, none, none]) ⟨Or.inr rfl, Or.inl rfl, Or.inl rfl, Or.inl rfl, Or.inl rfl, Or.inl rfl, Or.inl rfl, Or.inr rfl, Or.inr rfl, Or.inr rfl, trivial⟩ ?_
            exact T_X12_way__71 hd hq
          ·
            refine st_iload (pc := 58) dX12_way__58 rfl ?_
            refine st_i2l (pc := 60) dX12_way__60 ?_
            refine st_lconst (pc := 61) (v := 1) dX12_way__61 rfl ?_
            refine st_ldc2 (pc := 62) (v := (99 : Int64)) dX12_way__62 wd_1273 ?_
            obtain ⟨q5, e5, hq⟩ := mh_ob hq
            refine st_invS (pc := 65) (Y := mX12_in) (vs := [.long l4.toInt64, .long (1 : Int64), .long (99 : Int64)]) (rest := []) (st2 := [.int q5.1]) dX12_way__65 okX12_in wd_1270 wd_1271 pdX12_in rfl rfl rfl rfl (Nat.le_trans (by decide) hd) (Nat.le_of_ble_eq_true rfl) (T_X12_in (Nat.le_refl _) e5) rfl ?_
            refine bd_if_ne (pc := 68) (tgt := 77) hq dX12_way__68 (by decide) (fun _ hq => ?_) (fun _ hq => ?_)
            ·
              refine st_lesS (lv' := [some (.ref l0), none, none, none, none, none, none, none, none, none]) ⟨Or.inr rfl, Or.inl rfl, Or.inl rfl, Or.inl rfl, Or.inl rfl, Or.inl rfl, Or.inl rfl, Or.inr rfl, Or.inr rfl, Or.inr rfl, trivial⟩ ?_
              exact T_X12_way__71 hd hq
            ·
              refine st_aload_n (pc := 77) dX12_way__77 rfl ?_
              refine st_iload (pc := 78) dX12_way__78 rfl ?_
              obtain ⟨⟨hbq6, hkq6⟩, hq⟩ := mh_oi hq
              obtain ⟨q6, e6, hq⟩ := mh_ob hq
              refine st_invV (pc := 80) (ci := 12) (vs := [.int (l2 / (100 : Int32))]) (rest := []) (st2 := [.int q6.1]) dX12_way__80 okX12_isEnd (by decide) hkq6 hbq6 wd_1297 wd_1299 wp_39 pdX12_isEnd rfl rfl rfl rfl (Nat.le_trans (by decide) hd) (Nat.le_of_ble_eq_true rfl) (T_X12_isEnd (Nat.le_refl _) e6) rfl ?_
              refine bd_if_ne (pc := 83) (tgt := 95) hq dX12_way__83 (by decide) (fun _ hq => ?_) (fun _ hq => ?_)
              ·
                refine st_aload_n (pc := 86) dX12_way__86 rfl ?_
                refine st_iload (pc := 87) dX12_way__87 rfl ?_
                obtain ⟨⟨hbq7, hkq7⟩, hq⟩ := mh_oi hq
                obtain ⟨q7, e7, hq⟩ := mh_ob hq
                refine st_invV (pc := 89) (ci := 12) (vs := [.int (l2 - l2 / (100 : Int32) * (100 : Int32))]) (rest := []) (st2 := [.int q7.1]) dX12_way__89 okX12_isHole (by decide) hkq7 hbq7 wd_1305 wd_1307 wp_41 pdX12_isHole rfl rfl rfl rfl (Nat.le_trans (by decide) hd) (Nat.le_of_ble_eq_true rfl) (T_X12_isHole (Nat.le_refl _) e7) rfl ?_
                refine bd_if_eq (pc := 92) (tgt := 101) hq dX12_way__92 (by decide) (fun _ hq => ?_) (fun _ hq => ?_)
                ·
                  refine st_aload_n (pc := 101) dX12_way__101 rfl ?_
                  refine bd_getr (pc := 102) hq dX12_way__102 fl_12_9_12 rfl (fun v8 hq => ?_)
                  refine st_iload (pc := 105) dX12_way__105 rfl ?_
                  obtain ⟨q9, e9, hq⟩ := mh_ob hq
                  refine st_invS (pc := 107) (Y := mX12_joint) (vs := [.int (l2 / (100 : Int32))]) (rest := [.ref v8]) (st2 := [.int q9.1, .ref v8]) dX12_way__107 okX12_joint wd_1279 wd_1280 pdX12_joint rfl rfl rfl rfl (Nat.le_trans (by decide) hd) (Nat.le_of_ble_eq_true rfl) (T_X12_joint (Nat.le_refl _) e9) rfl ?_
                  refine st_iconst (pc := 110) (v := (2 : Int32)) dX12_way__110 rfl ?_
                  refine st_iadd (pc := 111) dX12_way__111 ?_
                  refine bd_iald (pc := 112) hq dX12_way__112 (fun v10 hq => ?_)
                  refine st_aload_n (pc := 113) dX12_way__113 rfl ?_
                  refine bd_getr (pc := 114) hq dX12_way__114 fl_12_9_12 rfl (fun v11 hq => ?_)
                  refine st_iload (pc := 117) dX12_way__117 rfl ?_
                  obtain ⟨q12, e12, hq⟩ := mh_ob hq
                  refine st_invS (pc := 119) (Y := mX12_joint) (vs := [.int (l2 - l2 / (100 : Int32) * (100 : Int32))]) (rest := [.ref v11, .int v10]) (st2 := [.int q12.1, .ref v11, .int v10]) dX12_way__119 okX12_joint wd_1279 wd_1280 pdX12_joint rfl rfl rfl rfl (Nat.le_trans (by decide) hd) (Nat.le_of_ble_eq_true rfl) (T_X12_joint (Nat.le_refl _) e12) rfl ?_
                  refine st_iconst (pc := 122) (v := (2 : Int32)) dX12_way__122 rfl ?_
                  refine st_iadd (pc := 123) dX12_way__123 ?_
                  refine bd_iald (pc := 124) hq dX12_way__124 (fun v13 hq => ?_)
                  refine bd_icmp_gt (pc := 125) (tgt := 134) hq dX12_way__125 (by decide) (fun _ hq => ?_) (fun _ hq => ?_)
                  ·
                    refine st_aload_n (pc := 134) dX12_way__134 rfl ?_
                    refine bd_getr (pc := 135) hq dX12_way__135 fl_12_9_12 rfl (fun v14 hq => ?_)
                    refine st_iconst (pc := 138) (v := (2 : Int32)) dX12_way__138 rfl ?_
                    refine bd_iald (pc := 139) hq dX12_way__139 (fun v15 hq => ?_)
                    refine st_istore (pc := 140) (lv' := [some (.ref l0), some (.int l1), some (.int l2), some (.int l3), some (.int l4), some (.int (l2 / (100 : Int32))), some (.int (l2 - l2 / (100 : Int32) * (100 : Int32))), some (.int v15), none, none]) dX12_way__140 rfl (by decide) rfl ?_
                    refine st_iload (pc := 142) dX12_way__142 rfl ?_
                    refine st_bipush (pc := 144) (v := (24 : Int32)) dX12_way__144 (by decide) ?_
                    refine bd_icmp_ne (pc := 146) (tgt := 155) hq dX12_way__146 (by decide) (fun _ hq => ?_) (fun _ hq => ?_)
                    ·
                      refine st_aload_n (pc := 149) dX12_way__149 rfl ?_
                      refine st_iconst (pc := 150) (v := (4 : Int32)) dX12_way__150 rfl ?_
                      obtain ⟨⟨hbq16, hkq16⟩, hq⟩ := mh_oi hq
                      obtain ⟨q16, e16, hq⟩ := mh_ob hq
                      refine st_invV (pc := 151) (ci := 12) (vs := [.int (4 : Int32)]) (rest := []) (st2 := [.int q16.1]) dX12_way__151 okX12_error (by decide) hkq16 hbq16 wd_1274 wd_1276 wp_37 pdX12_error rfl rfl rfl rfl (Nat.le_trans (by decide) hd) (Nat.le_of_ble_eq_true rfl) (T_X12_error (Nat.le_refl _) e16) rfl ?_
                      exact bd_iret (pc := 154) hq dX12_way__154 rfl
                    ·
                      refine st_iload (pc := 155) dX12_way__155 rfl ?_
                      obtain ⟨q16, e16, hq⟩ := mh_ob hq
                      refine st_invS (pc := 157) (Y := mX12_way) (vs := [.int v15]) (rest := []) (st2 := [.int q16.1]) dX12_way__157 okX12_way wd_1309 wd_1310 pdX12_way rfl rfl rfl rfl (Nat.le_trans (by decide) hd) (Nat.le_of_ble_eq_true rfl) (T_X12_way (Nat.le_refl _) e16) rfl ?_
                      refine st_istore (pc := 160) (lv' := [some (.ref l0), some (.int l1), some (.int l2), some (.int l3), some (.int l4), some (.int (l2 / (100 : Int32))), some (.int (l2 - l2 / (100 : Int32) * (100 : Int32))), some (.int v15), some (.int q16.1), none]) dX12_way__160 rfl (by decide) rfl ?_
                      refine st_iconst (pc := 162) (v := (0 : Int32)) dX12_way__162 rfl ?_
                      refine st_istore (pc := 163) (lv' := [some (.ref l0), some (.int l1), some (.int l2), some (.int l3), some (.int l4), some (.int (l2 / (100 : Int32))), some (.int (l2 - l2 / (100 : Int32) * (100 : Int32))), some (.int v15), some (.int q16.1), some (.int (0 : Int32))]) dX12_way__163 rfl (by decide) rfl ?_
                      refine st_lesS (lv' := [some (.ref l0), some (.int l1), none, some (.int l3), some (.int l4), some (.int (l2 / (100 : Int32))), some (.int (l2 - l2 / (100 : Int32) * (100 : Int32))), some (.int v15), some (.int q16.1), some (.int (0 : Int32))]) ⟨Or.inr rfl, Or.inr rfl, Or.inl rfl, Or.inr rfl, Or.inr rfl, Or.inr rfl, Or.inr rfl, Or.inr rfl, Or.inr rfl, Or.inr rfl, trivial⟩ ?_
                      exact T_X12_way__165 hd N _ _ _ _ _ _ _ _ _ _ hq
                  ·
                    refine st_aload_n (pc := 128) dX12_way__128 rfl ?_
                    refine st_iconst (pc := 129) (v := (3 : Int32)) dX12_way__129 rfl ?_
                    obtain ⟨⟨hbq14, hkq14⟩, hq⟩ := mh_oi hq
                    obtain ⟨q14, e14, hq⟩ := mh_ob hq
                    refine st_invV (pc := 130) (ci := 12) (vs := [.int (3 : Int32)]) (rest := []) (st2 := [.int q14.1]) dX12_way__130 okX12_error (by decide) hkq14 hbq14 wd_1274 wd_1276 wp_37 pdX12_error rfl rfl rfl rfl (Nat.le_trans (by decide) hd) (Nat.le_of_ble_eq_true rfl) (T_X12_error (Nat.le_refl _) e14) rfl ?_
                    exact bd_iret (pc := 133) hq dX12_way__133 rfl
                ·
                  refine st_lesS (lv' := [some (.ref l0), none, none, none, none, none, none, none, none, none]) ⟨Or.inr rfl, Or.inl rfl, Or.inl rfl, Or.inl rfl, Or.inl rfl, Or.inl rfl, Or.inl rfl, Or.inr rfl, Or.inr rfl, Or.inr rfl, trivial⟩ ?_
                  exact T_X12_way__95 hd hq
              ·
                refine st_lesS (lv' := [some (.ref l0), none, none, none, none, none, none, none, none, none]) ⟨Or.inr rfl, Or.inl rfl, Or.inl rfl, Or.inl rfl, Or.inl rfl, Or.inl rfl, Or.inl rfl, Or.inr rfl, Or.inr rfl, Or.inr rfl, trivial⟩ ?_
                exact T_X12_way__95 hd hq
-- HoleWaterModel.above(I)I
theorem dX12_above_0 : decode cX12_above 0 = .ok (.iload_n 0, 1) := by decide +kernel
theorem dX12_above_1 : decode cX12_above 1 = .ok (.ifCond .ne 7, 3) := by decide +kernel
theorem dX12_above_4 : decode cX12_above 4 = .ok (.iconst (-1), 1) := by decide +kernel
theorem dX12_above_5 : decode cX12_above 5 = .ok (.goto 22, 3) := by decide +kernel
theorem dX12_above_27 : decode cX12_above 27 = .ok (.ireturn, 1) := by decide +kernel
theorem dX12_above_8 : decode cX12_above 8 = .ok (.iload_n 0, 1) := by decide +kernel
theorem dX12_above_9 : decode cX12_above 9 = .ok (.iconst 3, 1) := by decide +kernel
theorem dX12_above_10 : decode cX12_above 10 = .ok (.if_icmp .ne 7, 3) := by decide +kernel
theorem dX12_above_13 : decode cX12_above 13 = .ok (.iconst 1, 1) := by decide +kernel
theorem dX12_above_14 : decode cX12_above 14 = .ok (.goto 13, 3) := by decide +kernel
theorem dX12_above_17 : decode cX12_above 17 = .ok (.iload_n 0, 1) := by decide +kernel
theorem dX12_above_18 : decode cX12_above 18 = .ok (.iconst 5, 1) := by decide +kernel
theorem dX12_above_19 : decode cX12_above 19 = .ok (.if_icmp .ne 7, 3) := by decide +kernel
theorem dX12_above_22 : decode cX12_above 22 = .ok (.iconst 2, 1) := by decide +kernel
theorem dX12_above_23 : decode cX12_above 23 = .ok (.goto 4, 3) := by decide +kernel
theorem dX12_above_26 : decode cX12_above 26 = .ok (.iconst 0, 1) := by decide +kernel
def D_X12_above (N : Nat) (h : mh_H) (l0 : Int32) : Option (Int32 × mh_H) :=
  if l0 = 0 then (some ((-1 : Int32), h))
  else (if l0 = (3 : Int32) then (some ((1 : Int32), h))
  else (if l0 = (5 : Int32) then (some ((2 : Int32), h))
  else (some ((0 : Int32), h))))
set_option maxHeartbeats 4000000 in
set_option maxRecDepth 100000 in
theorem T_X12_above {P : mh_E → Prop} {N d : Nat} (hd : 1 ≤ d) {z : (Int32 × mh_H)} {h : mh_H} {l0 : Int32} (hq : D_X12_above N h l0 = some z) : mh_go P d mX12_above 0 [some (.int l0)] [] h (some (.int z.1)) z.2 := by
  unfold D_X12_above at hq
  refine st_iload_n (pc := 0) dX12_above_0 rfl ?_
  refine bd_if_ne (pc := 1) (tgt := 8) hq dX12_above_1 (by decide) (fun _ hq => ?_) (fun _ hq => ?_)
  ·
    refine st_iconst (pc := 4) (v := (-1 : Int32)) dX12_above_4 rfl ?_
    refine st_goto (pc := 5) (tgt := 27) dX12_above_5 (by decide) ?_
    exact bd_iret (pc := 27) hq dX12_above_27 rfl
  ·
    refine st_iload_n (pc := 8) dX12_above_8 rfl ?_
    refine st_iconst (pc := 9) (v := (3 : Int32)) dX12_above_9 rfl ?_
    refine bd_icmp_ne (pc := 10) (tgt := 17) hq dX12_above_10 (by decide) (fun _ hq => ?_) (fun _ hq => ?_)
    ·
      refine st_iconst (pc := 13) (v := (1 : Int32)) dX12_above_13 rfl ?_
      refine st_goto (pc := 14) (tgt := 27) dX12_above_14 (by decide) ?_
      exact bd_iret (pc := 27) hq dX12_above_27 rfl
    ·
      refine st_iload_n (pc := 17) dX12_above_17 rfl ?_
      refine st_iconst (pc := 18) (v := (5 : Int32)) dX12_above_18 rfl ?_
      refine bd_icmp_ne (pc := 19) (tgt := 26) hq dX12_above_19 (by decide) (fun _ hq => ?_) (fun _ hq => ?_)
      ·
        refine st_iconst (pc := 22) (v := (2 : Int32)) dX12_above_22 rfl ?_
        refine st_goto (pc := 23) (tgt := 27) dX12_above_23 (by decide) ?_
        exact bd_iret (pc := 27) hq dX12_above_27 rfl
      ·
        refine st_iconst (pc := 26) (v := (0 : Int32)) dX12_above_26 rfl ?_
        exact bd_iret (pc := 27) hq dX12_above_27 rfl
-- HoleWaterModel.isUnder(II)Z
theorem dX12_isUnder_19 : decode cX12_isUnder 19 = .ok (.iload_n 2, 1) := by decide +kernel
theorem dX12_isUnder_20 : decode cX12_isUnder 20 = .ok (.iload_n 1, 1) := by decide +kernel
theorem dX12_isUnder_21 : decode cX12_isUnder 21 = .ok (.if_icmp .ne 7, 3) := by decide +kernel
theorem dX12_isUnder_24 : decode cX12_isUnder 24 = .ok (.iconst 1, 1) := by decide +kernel
theorem dX12_isUnder_25 : decode cX12_isUnder 25 = .ok (.goto 4, 3) := by decide +kernel
theorem dX12_isUnder_29 : decode cX12_isUnder 29 = .ok (.ireturn, 1) := by decide +kernel
theorem dX12_isUnder_28 : decode cX12_isUnder 28 = .ok (.iconst 0, 1) := by decide +kernel
theorem dX12_isUnder_2 : decode cX12_isUnder 2 = .ok (.iload_n 2, 1) := by decide +kernel
theorem dX12_isUnder_3 : decode cX12_isUnder 3 = .ok (.ifCond .lt 16, 3) := by decide +kernel
theorem dX12_isUnder_6 : decode cX12_isUnder 6 = .ok (.iload_n 2, 1) := by decide +kernel
theorem dX12_isUnder_7 : decode cX12_isUnder 7 = .ok (.iload_n 1, 1) := by decide +kernel
theorem dX12_isUnder_8 : decode cX12_isUnder 8 = .ok (.if_icmp .eq 11, 3) := by decide +kernel
theorem dX12_isUnder_11 : decode cX12_isUnder 11 = .ok (.iload_n 2, 1) := by decide +kernel
theorem dX12_isUnder_12 : decode cX12_isUnder 12 = .ok (.invokestatic 102, 3) := by decide +kernel
theorem dX12_isUnder_15 : decode cX12_isUnder 15 = .ok (.istore_n 2, 1) := by decide +kernel
theorem dX12_isUnder_16 : decode cX12_isUnder 16 = .ok (.goto (-14), 3) := by decide +kernel
theorem dX12_isUnder_0 : decode cX12_isUnder 0 = .ok (.iload_n 0, 1) := by decide +kernel
theorem dX12_isUnder_1 : decode cX12_isUnder 1 = .ok (.istore_n 2, 1) := by decide +kernel
def D_X12_isUnder_19 (N : Nat) (h : mh_H) (l1 : Int32) (l2 : Int32) : Option (Int32 × mh_H) :=
  if l2 = l1 then (zB (1 : Int32) h)
  else (zB (0 : Int32) h)
set_option maxHeartbeats 4000000 in
set_option maxRecDepth 100000 in
theorem T_X12_isUnder_19 {P : mh_E → Prop} {N d : Nat} (hd : 2 ≤ d) {z : (Int32 × mh_H)} {h : mh_H} {l1 : Int32} {l2 : Int32} (hq : D_X12_isUnder_19 N h l1 l2 = some z) : mh_go P d mX12_isUnder 19 [none, some (.int l1), some (.int l2)] [] h (some (.int z.1)) z.2 := by
  unfold D_X12_isUnder_19 at hq
  refine st_iload_n (pc := 19) dX12_isUnder_19 rfl ?_
  refine st_iload_n (pc := 20) dX12_isUnder_20 rfl ?_
  refine bd_icmp_ne (pc := 21) (tgt := 28) hq dX12_isUnder_21 (by decide) (fun _ hq => ?_) (fun _ hq => ?_)
  ·
    refine st_iconst (pc := 24) (v := (1 : Int32)) dX12_isUnder_24 rfl ?_
    refine st_goto (pc := 25) (tgt := 29) dX12_isUnder_25 (by decide) ?_
    exact bd_zret (pc := 29) hq dX12_isUnder_29 rfl
  ·
    refine st_iconst (pc := 28) (v := (0 : Int32)) dX12_isUnder_28 rfl ?_
    exact bd_zret (pc := 29) hq dX12_isUnder_29 rfl
def D_X12_isUnder_2 (N : Nat) : Nat → mh_H → Int32 → Int32 → Option (Int32 × mh_H)
  | 0, _, _, _ => none
  | F + 1, h, l1, l2 =>
    if l2 < 0 then (D_X12_isUnder_19 N h l1 l2)
    else (if l2 = l1 then (D_X12_isUnder_19 N h l1 l2)
    else ((D_X12_above N h l2).bind fun q1 =>
    (D_X12_isUnder_2 N F) q1.2 l1 q1.1))
set_option maxHeartbeats 4000000 in
set_option maxRecDepth 100000 in
theorem T_X12_isUnder_2 {P : mh_E → Prop} {N d : Nat} (hd : 2 ≤ d) {z : (Int32 × mh_H)} : ∀ (F : Nat) (h : mh_H) (l1 : Int32) (l2 : Int32), D_X12_isUnder_2 N F h l1 l2 = some z → mh_go P d mX12_isUnder 2 [none, some (.int l1), some (.int l2)] [] h (some (.int z.1)) z.2 := by
  intro F
  induction F with
  | zero => intro h l1 l2 hq; rw [D_X12_isUnder_2] at hq; cases hq
  | succ F ih =>
    intro h l1 l2 hq
    rw [D_X12_isUnder_2] at hq
    refine st_iload_n (pc := 2) dX12_isUnder_2 rfl ?_
    refine bd_if_lt (pc := 3) (tgt := 19) hq dX12_isUnder_3 (by decide) (fun _ hq => ?_) (fun _ hq => ?_)
    ·
      exact T_X12_isUnder_19 hd hq
    ·
      refine st_iload_n (pc := 6) dX12_isUnder_6 rfl ?_
      refine st_iload_n (pc := 7) dX12_isUnder_7 rfl ?_
      refine bd_icmp_eq (pc := 8) (tgt := 19) hq dX12_isUnder_8 (by decide) (fun _ hq => ?_) (fun _ hq => ?_)
      ·
        exact T_X12_isUnder_19 hd hq
      ·
        refine st_iload_n (pc := 11) dX12_isUnder_11 rfl ?_
        obtain ⟨q1, e1, hq⟩ := mh_ob hq
        refine st_invS (pc := 12) (Y := mX12_above) (vs := [.int l2]) (rest := []) (st2 := [.int q1.1]) dX12_isUnder_12 okX12_above wd_1323 wd_1324 pdX12_above rfl rfl rfl rfl (Nat.le_trans (by decide) hd) (Nat.le_of_ble_eq_true rfl) (T_X12_above (Nat.le_refl _) e1) rfl ?_
        refine st_istore_n (pc := 15) (lv' := [none, some (.int l1), some (.int q1.1)]) dX12_isUnder_15 rfl (by decide) rfl ?_
        refine st_goto (pc := 16) (tgt := 2) dX12_isUnder_16 (by decide) ?_
        exact ih _ _ _ hq
def D_X12_isUnder (N : Nat) (h : mh_H) (l0 : Int32) (l1 : Int32) : Option (Int32 × mh_H) :=
  D_X12_isUnder_2 N N h l1 l0
set_option maxHeartbeats 4000000 in
set_option maxRecDepth 100000 in
theorem T_X12_isUnder {P : mh_E → Prop} {N d : Nat} (hd : 2 ≤ d) {z : (Int32 × mh_H)} {h : mh_H} {l0 : Int32} {l1 : Int32} (hq : D_X12_isUnder N h l0 l1 = some z) : mh_go P d mX12_isUnder 0 [some (.int l0), some (.int l1), none] [] h (some (.int z.1)) z.2 := by
  unfold D_X12_isUnder at hq
  refine st_iload_n (pc := 0) dX12_isUnder_0 rfl ?_
  refine st_istore_n (pc := 1) (lv' := [some (.int l0), some (.int l1), some (.int l0)]) dX12_isUnder_1 rfl (by decide) rfl ?_
  refine st_lesS (lv' := [none, some (.int l1), some (.int l0)]) ⟨Or.inl rfl, Or.inr rfl, Or.inr rfl, trivial⟩ ?_
  exact T_X12_isUnder_2 hd N _ _ _ hq
-- HoleWaterModel.takes(I)I
theorem dX12_takes_0 : decode cX12_takes 0 = .ok (.aload_n 0, 1) := by decide +kernel
theorem dX12_takes_1 : decode cX12_takes 1 = .ok (.getfield 9, 3) := by decide +kernel
theorem dX12_takes_4 : decode cX12_takes 4 = .ok (.iload_n 1, 1) := by decide +kernel
theorem dX12_takes_5 : decode cX12_takes 5 = .ok (.invokestatic 99, 3) := by decide +kernel
theorem dX12_takes_8 : decode cX12_takes 8 = .ok (.iaload, 1) := by decide +kernel
theorem dX12_takes_9 : decode cX12_takes 9 = .ok (.istore_n 2, 1) := by decide +kernel
theorem dX12_takes_10 : decode cX12_takes 10 = .ok (.aload_n 0, 1) := by decide +kernel
theorem dX12_takes_11 : decode cX12_takes 11 = .ok (.getfield 9, 3) := by decide +kernel
theorem dX12_takes_14 : decode cX12_takes 14 = .ok (.iload_n 1, 1) := by decide +kernel
theorem dX12_takes_15 : decode cX12_takes 15 = .ok (.invokestatic 99, 3) := by decide +kernel
theorem dX12_takes_18 : decode cX12_takes 18 = .ok (.iconst 3, 1) := by decide +kernel
theorem dX12_takes_19 : decode cX12_takes 19 = .ok (.iadd, 1) := by decide +kernel
theorem dX12_takes_20 : decode cX12_takes 20 = .ok (.iaload, 1) := by decide +kernel
theorem dX12_takes_21 : decode cX12_takes 21 = .ok (.istore_n 3, 1) := by decide +kernel
theorem dX12_takes_22 : decode cX12_takes 22 = .ok (.iload_n 2, 1) := by decide +kernel
theorem dX12_takes_23 : decode cX12_takes 23 = .ok (.iconst 1, 1) := by decide +kernel
theorem dX12_takes_24 : decode cX12_takes 24 = .ok (.invokestatic 105, 3) := by decide +kernel
theorem dX12_takes_27 : decode cX12_takes 27 = .ok (.ifCond .eq 11, 3) := by decide +kernel
theorem dX12_takes_38 : decode cX12_takes 38 = .ok (.iload_n 2, 1) := by decide +kernel
theorem dX12_takes_39 : decode cX12_takes 39 = .ok (.iconst 2, 1) := by decide +kernel
theorem dX12_takes_40 : decode cX12_takes 40 = .ok (.invokestatic 105, 3) := by decide +kernel
theorem dX12_takes_43 : decode cX12_takes 43 = .ok (.ifCond .eq 9, 3) := by decide +kernel
theorem dX12_takes_52 : decode cX12_takes 52 = .ok (.iload_n 3, 1) := by decide +kernel
theorem dX12_takes_53 : decode cX12_takes 53 = .ok (.ireturn, 1) := by decide +kernel
theorem dX12_takes_46 : decode cX12_takes 46 = .ok (.iconst 2, 1) := by decide +kernel
theorem dX12_takes_47 : decode cX12_takes 47 = .ok (.iload_n 3, 1) := by decide +kernel
theorem dX12_takes_48 : decode cX12_takes 48 = .ok (.imul, 1) := by decide +kernel
theorem dX12_takes_49 : decode cX12_takes 49 = .ok (.goto 4, 3) := by decide +kernel
theorem dX12_takes_30 : decode cX12_takes 30 = .ok (.iload_n 3, 1) := by decide +kernel
theorem dX12_takes_31 : decode cX12_takes 31 = .ok (.iconst 2, 1) := by decide +kernel
theorem dX12_takes_32 : decode cX12_takes 32 = .ok (.idiv, 1) := by decide +kernel
theorem dX12_takes_33 : decode cX12_takes 33 = .ok (.iconst 1, 1) := by decide +kernel
theorem dX12_takes_34 : decode cX12_takes 34 = .ok (.iadd, 1) := by decide +kernel
theorem dX12_takes_35 : decode cX12_takes 35 = .ok (.goto 18, 3) := by decide +kernel
def D_X12_takes (N : Nat) (h : mh_H) (l0 : Nat) (l1 : Int32) : Option (Int32 × mh_H) :=
  (gR h 12 l0 0).bind fun v1 =>
  (D_X12_way N h l1).bind fun q2 =>
  (aI q2.2 v1 q2.1).bind fun v3 =>
  (gR q2.2 12 l0 0).bind fun v4 =>
  (D_X12_way N q2.2 l1).bind fun q5 =>
  (aI q5.2 v4 (q5.1 + (3 : Int32))).bind fun v6 =>
  (D_X12_isUnder N q5.2 v3 (1 : Int32)).bind fun q7 =>
  if q7.1 = 0 then ((D_X12_isUnder N q7.2 v3 (2 : Int32)).bind fun q8 =>
  if q8.1 = 0 then (some (v6, q8.2))
  else (some ((2 : Int32) * v6, q8.2)))
  else (dN (2 : Int32) <|
  some ((v6 / (2 : Int32)) + (1 : Int32), q7.2))
set_option maxHeartbeats 4000000 in
set_option maxRecDepth 100000 in
theorem T_X12_takes {P : mh_E → Prop} {N d : Nat} (hd : 3 ≤ d) {z : (Int32 × mh_H)} {h : mh_H} {l0 : Nat} {l1 : Int32} (hq : D_X12_takes N h l0 l1 = some z) : mh_go P d mX12_takes 0 [some (.ref l0), some (.int l1), none, none] [] h (some (.int z.1)) z.2 := by
  unfold D_X12_takes at hq
  refine st_aload_n (pc := 0) dX12_takes_0 rfl ?_
  refine bd_getr (pc := 1) hq dX12_takes_1 fl_12_9_12 rfl (fun v1 hq => ?_)
  refine st_iload_n (pc := 4) dX12_takes_4 rfl ?_
  obtain ⟨q2, e2, hq⟩ := mh_ob hq
  refine st_invS (pc := 5) (Y := mX12_way) (vs := [.int l1]) (rest := [.ref v1]) (st2 := [.int q2.1, .ref v1]) dX12_takes_5 okX12_way wd_1309 wd_1310 pdX12_way rfl rfl rfl rfl (Nat.le_trans (by decide) hd) (Nat.le_of_ble_eq_true rfl) (T_X12_way (Nat.le_refl _) e2) rfl ?_
  refine bd_iald (pc := 8) hq dX12_takes_8 (fun v3 hq => ?_)
  refine st_istore_n (pc := 9) (lv' := [some (.ref l0), some (.int l1), some (.int v3), none]) dX12_takes_9 rfl (by decide) rfl ?_
  refine st_aload_n (pc := 10) dX12_takes_10 rfl ?_
  refine bd_getr (pc := 11) hq dX12_takes_11 fl_12_9_12 rfl (fun v4 hq => ?_)
  refine st_iload_n (pc := 14) dX12_takes_14 rfl ?_
  obtain ⟨q5, e5, hq⟩ := mh_ob hq
  refine st_invS (pc := 15) (Y := mX12_way) (vs := [.int l1]) (rest := [.ref v4]) (st2 := [.int q5.1, .ref v4]) dX12_takes_15 okX12_way wd_1309 wd_1310 pdX12_way rfl rfl rfl rfl (Nat.le_trans (by decide) hd) (Nat.le_of_ble_eq_true rfl) (T_X12_way (Nat.le_refl _) e5) rfl ?_
  refine st_iconst (pc := 18) (v := (3 : Int32)) dX12_takes_18 rfl ?_
  refine st_iadd (pc := 19) dX12_takes_19 ?_
  refine bd_iald (pc := 20) hq dX12_takes_20 (fun v6 hq => ?_)
  refine st_istore_n (pc := 21) (lv' := [some (.ref l0), some (.int l1), some (.int v3), some (.int v6)]) dX12_takes_21 rfl (by decide) rfl ?_
  refine st_iload_n (pc := 22) dX12_takes_22 rfl ?_
  refine st_iconst (pc := 23) (v := (1 : Int32)) dX12_takes_23 rfl ?_
  obtain ⟨q7, e7, hq⟩ := mh_ob hq
  refine st_invS (pc := 24) (Y := mX12_isUnder) (vs := [.int v3, .int (1 : Int32)]) (rest := []) (st2 := [.int q7.1]) dX12_takes_24 okX12_isUnder wd_1320 wd_1321 pdX12_isUnder rfl rfl rfl rfl (Nat.le_trans (by decide) hd) (Nat.le_of_ble_eq_true rfl) (T_X12_isUnder (Nat.le_refl _) e7) rfl ?_
  refine bd_if_eq (pc := 27) (tgt := 38) hq dX12_takes_27 (by decide) (fun _ hq => ?_) (fun _ hq => ?_)
  ·
    refine st_iload_n (pc := 38) dX12_takes_38 rfl ?_
    refine st_iconst (pc := 39) (v := (2 : Int32)) dX12_takes_39 rfl ?_
    obtain ⟨q8, e8, hq⟩ := mh_ob hq
    refine st_invS (pc := 40) (Y := mX12_isUnder) (vs := [.int v3, .int (2 : Int32)]) (rest := []) (st2 := [.int q8.1]) dX12_takes_40 okX12_isUnder wd_1320 wd_1321 pdX12_isUnder rfl rfl rfl rfl (Nat.le_trans (by decide) hd) (Nat.le_of_ble_eq_true rfl) (T_X12_isUnder (Nat.le_refl _) e8) rfl ?_
    refine bd_if_eq (pc := 43) (tgt := 52) hq dX12_takes_43 (by decide) (fun _ hq => ?_) (fun _ hq => ?_)
    ·
      refine st_iload_n (pc := 52) dX12_takes_52 rfl ?_
      exact bd_iret (pc := 53) hq dX12_takes_53 rfl
    ·
      refine st_iconst (pc := 46) (v := (2 : Int32)) dX12_takes_46 rfl ?_
      refine st_iload_n (pc := 47) dX12_takes_47 rfl ?_
      refine st_imul (pc := 48) dX12_takes_48 ?_
      refine st_goto (pc := 49) (tgt := 53) dX12_takes_49 (by decide) ?_
      exact bd_iret (pc := 53) hq dX12_takes_53 rfl
  ·
    refine st_iload_n (pc := 30) dX12_takes_30 rfl ?_
    refine st_iconst (pc := 31) (v := (2 : Int32)) dX12_takes_31 rfl ?_
    refine bd_idiv (pc := 32) hq dX12_takes_32 (fun hq => ?_)
    refine st_iconst (pc := 33) (v := (1 : Int32)) dX12_takes_33 rfl ?_
    refine st_iadd (pc := 34) dX12_takes_34 ?_
    refine st_goto (pc := 35) (tgt := 53) dX12_takes_35 (by decide) ?_
    exact bd_iret (pc := 53) hq dX12_takes_53 rfl
-- HoleWaterModel.as(II)I
theorem dX12_as_20 : decode cX12_as 20 = .ok (.aload_n 0, 1) := by decide +kernel
theorem dX12_as_21 : decode cX12_as 21 = .ok (.iconst 1, 1) := by decide +kernel
theorem dX12_as_22 : decode cX12_as 22 = .ok (.invokevirtual 80, 3) := by decide +kernel
theorem dX12_as_25 : decode cX12_as 25 = .ok (.ireturn, 1) := by decide +kernel
theorem dX12_as_0 : decode cX12_as 0 = .ok (.aload_n 0, 1) := by decide +kernel
theorem dX12_as_1 : decode cX12_as 1 = .ok (.iload_n 1, 1) := by decide +kernel
theorem dX12_as_2 : decode cX12_as 2 = .ok (.invokevirtual 109, 3) := by decide +kernel
theorem dX12_as_5 : decode cX12_as 5 = .ok (.ifCond .eq 15, 3) := by decide +kernel
theorem dX12_as_8 : decode cX12_as 8 = .ok (.iload_n 2, 1) := by decide +kernel
theorem dX12_as_9 : decode cX12_as 9 = .ok (.i2l, 1) := by decide +kernel
theorem dX12_as_10 : decode cX12_as 10 = .ok (.lconst 0, 1) := by decide +kernel
theorem dX12_as_11 : decode cX12_as 11 = .ok (.ldc2_w 89, 3) := by decide +kernel
theorem dX12_as_14 : decode cX12_as 14 = .ok (.invokestatic 65, 3) := by decide +kernel
theorem dX12_as_17 : decode cX12_as 17 = .ok (.ifCond .ne 9, 3) := by decide +kernel
theorem dX12_as_26 : decode cX12_as 26 = .ok (.aload_n 0, 1) := by decide +kernel
theorem dX12_as_27 : decode cX12_as 27 = .ok (.getfield 9, 3) := by decide +kernel
theorem dX12_as_30 : decode cX12_as 30 = .ok (.iload_n 1, 1) := by decide +kernel
theorem dX12_as_31 : decode cX12_as 31 = .ok (.invokestatic 99, 3) := by decide +kernel
theorem dX12_as_34 : decode cX12_as 34 = .ok (.iaload, 1) := by decide +kernel
theorem dX12_as_35 : decode cX12_as 35 = .ok (.iload_n 2, 1) := by decide +kernel
theorem dX12_as_36 : decode cX12_as 36 = .ok (.invokestatic 105, 3) := by decide +kernel
theorem dX12_as_39 : decode cX12_as 39 = .ok (.ifCond .eq 11, 3) := by decide +kernel
theorem dX12_as_50 : decode cX12_as 50 = .ok (.aload_n 0, 1) := by decide +kernel
theorem dX12_as_51 : decode cX12_as 51 = .ok (.iconst 5, 1) := by decide +kernel
theorem dX12_as_52 : decode cX12_as 52 = .ok (.invokevirtual 80, 3) := by decide +kernel
theorem dX12_as_55 : decode cX12_as 55 = .ok (.ireturn, 1) := by decide +kernel
theorem dX12_as_42 : decode cX12_as 42 = .ok (.aload_n 0, 1) := by decide +kernel
theorem dX12_as_43 : decode cX12_as 43 = .ok (.iload_n 1, 1) := by decide +kernel
theorem dX12_as_44 : decode cX12_as 44 = .ok (.invokevirtual 112, 3) := by decide +kernel
theorem dX12_as_47 : decode cX12_as 47 = .ok (.goto 8, 3) := by decide +kernel
def D_X12_as_20 (N : Nat) (h : mh_H) (l0 : Nat) : Option (Int32 × mh_H) :=
  kO h 12 l0 <|
  (D_X12_error N h l0 (1 : Int32)).bind fun q1 =>
  some (q1.1, q1.2)
set_option maxHeartbeats 4000000 in
set_option maxRecDepth 100000 in
theorem T_X12_as_20 {P : mh_E → Prop} {N d : Nat} (hd : 4 ≤ d) {z : (Int32 × mh_H)} {h : mh_H} {l0 : Nat} (hq : D_X12_as_20 N h l0 = some z) : mh_go P d mX12_as 20 [some (.ref l0), none, none] [] h (some (.int z.1)) z.2 := by
  unfold D_X12_as_20 at hq
  refine st_aload_n (pc := 20) dX12_as_20 rfl ?_
  refine st_iconst (pc := 21) (v := (1 : Int32)) dX12_as_21 rfl ?_
  obtain ⟨⟨hbq1, hkq1⟩, hq⟩ := mh_oi hq
  obtain ⟨q1, e1, hq⟩ := mh_ob hq
  refine st_invV (pc := 22) (ci := 12) (vs := [.int (1 : Int32)]) (rest := []) (st2 := [.int q1.1]) dX12_as_22 okX12_error (by decide) hkq1 hbq1 wd_1274 wd_1276 wp_37 pdX12_error rfl rfl rfl rfl (Nat.le_trans (by decide) hd) (Nat.le_of_ble_eq_true rfl) (T_X12_error (Nat.le_refl _) e1) rfl ?_
  exact bd_iret (pc := 25) hq dX12_as_25 rfl
def D_X12_as (N : Nat) (h : mh_H) (l0 : Nat) (l1 : Int32) (l2 : Int32) : Option (Int32 × mh_H) :=
  kO h 12 l0 <|
  (D_X12_isWay N h l0 l1).bind fun q1 =>
  if q1.1 = 0 then (D_X12_as_20 N q1.2 l0)
  else ((D_X12_in N q1.2 l2.toInt64 (0 : Int64) (5 : Int64)).bind fun q2 =>
  if q2.1 = 0 then (D_X12_as_20 N q2.2 l0)
  else ((gR q2.2 12 l0 0).bind fun v3 =>
  (D_X12_way N q2.2 l1).bind fun q4 =>
  (aI q4.2 v3 q4.1).bind fun v5 =>
  (D_X12_isUnder N q4.2 v5 l2).bind fun q6 =>
  if q6.1 = 0 then (kO q6.2 12 l0 <|
  (D_X12_error N q6.2 l0 (5 : Int32)).bind fun q7 =>
  some (q7.1, q7.2))
  else (kO q6.2 12 l0 <|
  (D_X12_takes N q6.2 l0 l1).bind fun q7 =>
  some (q7.1, q7.2))))
set_option maxHeartbeats 4000000 in
set_option maxRecDepth 100000 in
theorem T_X12_as {P : mh_E → Prop} {N d : Nat} (hd : 4 ≤ d) {z : (Int32 × mh_H)} {h : mh_H} {l0 : Nat} {l1 : Int32} {l2 : Int32} (hq : D_X12_as N h l0 l1 l2 = some z) : mh_go P d mX12_as 0 [some (.ref l0), some (.int l1), some (.int l2)] [] h (some (.int z.1)) z.2 := by
  unfold D_X12_as at hq
  refine st_aload_n (pc := 0) dX12_as_0 rfl ?_
  refine st_iload_n (pc := 1) dX12_as_1 rfl ?_
  obtain ⟨⟨hbq1, hkq1⟩, hq⟩ := mh_oi hq
  obtain ⟨q1, e1, hq⟩ := mh_ob hq
  refine st_invV (pc := 2) (ci := 12) (vs := [.int l1]) (rest := []) (st2 := [.int q1.1]) dX12_as_2 okX12_isWay (by decide) hkq1 hbq1 wd_1316 wd_1318 wp_42 pdX12_isWay rfl rfl rfl rfl (Nat.le_trans (by decide) hd) (Nat.le_of_ble_eq_true rfl) (T_X12_isWay (Nat.le_refl _) e1) rfl ?_
  refine bd_if_eq (pc := 5) (tgt := 20) hq dX12_as_5 (by decide) (fun _ hq => ?_) (fun _ hq => ?_)
  ·
    refine st_lesS (lv' := [some (.ref l0), none, none]) ⟨Or.inr rfl, Or.inl rfl, Or.inl rfl, trivial⟩ ?_
    exact T_X12_as_20 hd hq
  ·
    refine st_iload_n (pc := 8) dX12_as_8 rfl ?_
    refine st_i2l (pc := 9) dX12_as_9 ?_
    refine st_lconst (pc := 10) (v := 0) dX12_as_10 rfl ?_
    refine st_ldc2 (pc := 11) (v := (5 : Int64)) dX12_as_11 wd_1295 ?_
    obtain ⟨q2, e2, hq⟩ := mh_ob hq
    refine st_invS (pc := 14) (Y := mX12_in) (vs := [.long l2.toInt64, .long (0 : Int64), .long (5 : Int64)]) (rest := []) (st2 := [.int q2.1]) dX12_as_14 okX12_in wd_1270 wd_1271 pdX12_in rfl rfl rfl rfl (Nat.le_trans (by decide) hd) (Nat.le_of_ble_eq_true rfl) (T_X12_in (Nat.le_refl _) e2) rfl ?_
    refine bd_if_ne (pc := 17) (tgt := 26) hq dX12_as_17 (by decide) (fun _ hq => ?_) (fun _ hq => ?_)
    ·
      refine st_lesS (lv' := [some (.ref l0), none, none]) ⟨Or.inr rfl, Or.inl rfl, Or.inl rfl, trivial⟩ ?_
      exact T_X12_as_20 hd hq
    ·
      refine st_aload_n (pc := 26) dX12_as_26 rfl ?_
      refine bd_getr (pc := 27) hq dX12_as_27 fl_12_9_12 rfl (fun v3 hq => ?_)
      refine st_iload_n (pc := 30) dX12_as_30 rfl ?_
      obtain ⟨q4, e4, hq⟩ := mh_ob hq
      refine st_invS (pc := 31) (Y := mX12_way) (vs := [.int l1]) (rest := [.ref v3]) (st2 := [.int q4.1, .ref v3]) dX12_as_31 okX12_way wd_1309 wd_1310 pdX12_way rfl rfl rfl rfl (Nat.le_trans (by decide) hd) (Nat.le_of_ble_eq_true rfl) (T_X12_way (Nat.le_refl _) e4) rfl ?_
      refine bd_iald (pc := 34) hq dX12_as_34 (fun v5 hq => ?_)
      refine st_iload_n (pc := 35) dX12_as_35 rfl ?_
      obtain ⟨q6, e6, hq⟩ := mh_ob hq
      refine st_invS (pc := 36) (Y := mX12_isUnder) (vs := [.int v5, .int l2]) (rest := []) (st2 := [.int q6.1]) dX12_as_36 okX12_isUnder wd_1320 wd_1321 pdX12_isUnder rfl rfl rfl rfl (Nat.le_trans (by decide) hd) (Nat.le_of_ble_eq_true rfl) (T_X12_isUnder (Nat.le_refl _) e6) rfl ?_
      refine bd_if_eq (pc := 39) (tgt := 50) hq dX12_as_39 (by decide) (fun _ hq => ?_) (fun _ hq => ?_)
      ·
        refine st_aload_n (pc := 50) dX12_as_50 rfl ?_
        refine st_iconst (pc := 51) (v := (5 : Int32)) dX12_as_51 rfl ?_
        obtain ⟨⟨hbq7, hkq7⟩, hq⟩ := mh_oi hq
        obtain ⟨q7, e7, hq⟩ := mh_ob hq
        refine st_invV (pc := 52) (ci := 12) (vs := [.int (5 : Int32)]) (rest := []) (st2 := [.int q7.1]) dX12_as_52 okX12_error (by decide) hkq7 hbq7 wd_1274 wd_1276 wp_37 pdX12_error rfl rfl rfl rfl (Nat.le_trans (by decide) hd) (Nat.le_of_ble_eq_true rfl) (T_X12_error (Nat.le_refl _) e7) rfl ?_
        exact bd_iret (pc := 55) hq dX12_as_55 rfl
      ·
        refine st_aload_n (pc := 42) dX12_as_42 rfl ?_
        refine st_iload_n (pc := 43) dX12_as_43 rfl ?_
        obtain ⟨⟨hbq7, hkq7⟩, hq⟩ := mh_oi hq
        obtain ⟨q7, e7, hq⟩ := mh_ob hq
        refine st_invV (pc := 44) (ci := 12) (vs := [.int l1]) (rest := []) (st2 := [.int q7.1]) dX12_as_44 okX12_takes (by decide) hkq7 hbq7 wd_1326 wd_1328 wp_43 pdX12_takes rfl rfl rfl rfl (Nat.le_trans (by decide) hd) (Nat.le_of_ble_eq_true rfl) (T_X12_takes (Nat.le_refl _) e7) rfl ?_
        refine st_goto (pc := 47) (tgt := 55) dX12_as_47 (by decide) ?_
        exact bd_iret (pc := 55) hq dX12_as_55 rfl
-- HoleWaterModel.inWay(II)I
theorem dX12_inWay_17 : decode cX12_inWay 17 = .ok (.iload 4, 2) := by decide +kernel
theorem dX12_inWay_19 : decode cX12_inWay 19 = .ok (.bipush 41, 2) := by decide +kernel
theorem dX12_inWay_21 : decode cX12_inWay 21 = .ok (.if_icmp .ge 31, 3) := by decide +kernel
theorem dX12_inWay_52 : decode cX12_inWay 52 = .ok (.iload_n 3, 1) := by decide +kernel
theorem dX12_inWay_53 : decode cX12_inWay 53 = .ok (.ireturn, 1) := by decide +kernel
theorem dX12_inWay_24 : decode cX12_inWay 24 = .ok (.iload_n 3, 1) := by decide +kernel
theorem dX12_inWay_25 : decode cX12_inWay 25 = .ok (.aload_n 0, 1) := by decide +kernel
theorem dX12_inWay_26 : decode cX12_inWay 26 = .ok (.getfield 9, 3) := by decide +kernel
theorem dX12_inWay_29 : decode cX12_inWay 29 = .ok (.iload_n 1, 1) := by decide +kernel
theorem dX12_inWay_30 : decode cX12_inWay 30 = .ok (.invokestatic 99, 3) := by decide +kernel
theorem dX12_inWay_33 : decode cX12_inWay 33 = .ok (.bipush 10, 2) := by decide +kernel
theorem dX12_inWay_35 : decode cX12_inWay 35 = .ok (.iadd, 1) := by decide +kernel
theorem dX12_inWay_36 : decode cX12_inWay 36 = .ok (.iconst 5, 1) := by decide +kernel
theorem dX12_inWay_37 : decode cX12_inWay 37 = .ok (.iload 4, 2) := by decide +kernel
theorem dX12_inWay_39 : decode cX12_inWay 39 = .ok (.imul, 1) := by decide +kernel
theorem dX12_inWay_40 : decode cX12_inWay 40 = .ok (.iadd, 1) := by decide +kernel
theorem dX12_inWay_41 : decode cX12_inWay 41 = .ok (.iload_n 2, 1) := by decide +kernel
theorem dX12_inWay_42 : decode cX12_inWay 42 = .ok (.iadd, 1) := by decide +kernel
theorem dX12_inWay_43 : decode cX12_inWay 43 = .ok (.iaload, 1) := by decide +kernel
theorem dX12_inWay_44 : decode cX12_inWay 44 = .ok (.iadd, 1) := by decide +kernel
theorem dX12_inWay_45 : decode cX12_inWay 45 = .ok (.istore_n 3, 1) := by decide +kernel
theorem dX12_inWay_46 : decode cX12_inWay 46 = .ok (.iinc 4 1, 3) := by decide +kernel
theorem dX12_inWay_49 : decode cX12_inWay 49 = .ok (.goto (-32), 3) := by decide +kernel
theorem dX12_inWay_0 : decode cX12_inWay 0 = .ok (.aload_n 0, 1) := by decide +kernel
theorem dX12_inWay_1 : decode cX12_inWay 1 = .ok (.getfield 9, 3) := by decide +kernel
theorem dX12_inWay_4 : decode cX12_inWay 4 = .ok (.iload_n 1, 1) := by decide +kernel
theorem dX12_inWay_5 : decode cX12_inWay 5 = .ok (.invokestatic 99, 3) := by decide +kernel
theorem dX12_inWay_8 : decode cX12_inWay 8 = .ok (.iconst 5, 1) := by decide +kernel
theorem dX12_inWay_9 : decode cX12_inWay 9 = .ok (.iadd, 1) := by decide +kernel
theorem dX12_inWay_10 : decode cX12_inWay 10 = .ok (.iload_n 2, 1) := by decide +kernel
theorem dX12_inWay_11 : decode cX12_inWay 11 = .ok (.iadd, 1) := by decide +kernel
theorem dX12_inWay_12 : decode cX12_inWay 12 = .ok (.iaload, 1) := by decide +kernel
theorem dX12_inWay_13 : decode cX12_inWay 13 = .ok (.istore_n 3, 1) := by decide +kernel
theorem dX12_inWay_14 : decode cX12_inWay 14 = .ok (.iconst 0, 1) := by decide +kernel
theorem dX12_inWay_15 : decode cX12_inWay 15 = .ok (.istore 4, 2) := by decide +kernel
def D_X12_inWay_17 (N : Nat) : Nat → mh_H → Nat → Int32 → Int32 → Int32 → Int32 → Option (Int32 × mh_H)
  | 0, _, _, _, _, _, _ => none
  | F + 1, h, l0, l1, l2, l3, l4 =>
    if (41 : Int32) ≤ l4 then (some (l3, h))
    else ((gR h 12 l0 0).bind fun v1 =>
    (D_X12_way N h l1).bind fun q2 =>
    (aI q2.2 v1 (((q2.1 + (10 : Int32)) + ((5 : Int32) * l4)) + l2)).bind fun v3 =>
    (D_X12_inWay_17 N F) q2.2 l0 l1 l2 (l3 + v3) (l4 + Int32.ofInt (1)))
set_option maxHeartbeats 4000000 in
set_option maxRecDepth 100000 in
theorem T_X12_inWay_17 {P : mh_E → Prop} {N d : Nat} (hd : 2 ≤ d) {z : (Int32 × mh_H)} : ∀ (F : Nat) (h : mh_H) (l0 : Nat) (l1 : Int32) (l2 : Int32) (l3 : Int32) (l4 : Int32), D_X12_inWay_17 N F h l0 l1 l2 l3 l4 = some z → mh_go P d mX12_inWay 17 [some (.ref l0), some (.int l1), some (.int l2), some (.int l3), some (.int l4)] [] h (some (.int z.1)) z.2 := by
  intro F
  induction F with
  | zero => intro h l0 l1 l2 l3 l4 hq; rw [D_X12_inWay_17] at hq; cases hq
  | succ F ih =>
    intro h l0 l1 l2 l3 l4 hq
    rw [D_X12_inWay_17] at hq
    refine st_iload (pc := 17) dX12_inWay_17 rfl ?_
    refine st_bipush (pc := 19) (v := (41 : Int32)) dX12_inWay_19 (by decide) ?_
    refine bd_icmp_ge (pc := 21) (tgt := 52) hq dX12_inWay_21 (by decide) (fun _ hq => ?_) (fun _ hq => ?_)
    ·
      refine st_iload_n (pc := 52) dX12_inWay_52 rfl ?_
      exact bd_iret (pc := 53) hq dX12_inWay_53 rfl
    ·
      refine st_iload_n (pc := 24) dX12_inWay_24 rfl ?_
      refine st_aload_n (pc := 25) dX12_inWay_25 rfl ?_
      refine bd_getr (pc := 26) hq dX12_inWay_26 fl_12_9_12 rfl (fun v1 hq => ?_)
      refine st_iload_n (pc := 29) dX12_inWay_29 rfl ?_
      obtain ⟨q2, e2, hq⟩ := mh_ob hq
      refine st_invS (pc := 30) (Y := mX12_way) (vs := [.int l1]) (rest := [.ref v1, .int l3]) (st2 := [.int q2.1, .ref v1, .int l3]) dX12_inWay_30 okX12_way wd_1309 wd_1310 pdX12_way rfl rfl rfl rfl (Nat.le_trans (by decide) hd) (Nat.le_of_ble_eq_true rfl) (T_X12_way (Nat.le_refl _) e2) rfl ?_
      refine st_bipush (pc := 33) (v := (10 : Int32)) dX12_inWay_33 (by decide) ?_
      refine st_iadd (pc := 35) dX12_inWay_35 ?_
      refine st_iconst (pc := 36) (v := (5 : Int32)) dX12_inWay_36 rfl ?_
      refine st_iload (pc := 37) dX12_inWay_37 rfl ?_
      refine st_imul (pc := 39) dX12_inWay_39 ?_
      refine st_iadd (pc := 40) dX12_inWay_40 ?_
      refine st_iload_n (pc := 41) dX12_inWay_41 rfl ?_
      refine st_iadd (pc := 42) dX12_inWay_42 ?_
      refine bd_iald (pc := 43) hq dX12_inWay_43 (fun v3 hq => ?_)
      refine st_iadd (pc := 44) dX12_inWay_44 ?_
      refine st_istore_n (pc := 45) (lv' := [some (.ref l0), some (.int l1), some (.int l2), some (.int (l3 + v3)), some (.int l4)]) dX12_inWay_45 rfl (by decide) rfl ?_
      refine st_iinc (pc := 46) (lv' := [some (.ref l0), some (.int l1), some (.int l2), some (.int (l3 + v3)), some (.int (l4 + Int32.ofInt (1)))]) dX12_inWay_46 rfl rfl (by decide) rfl ?_
      refine st_goto (pc := 49) (tgt := 17) dX12_inWay_49 (by decide) ?_
      exact ih _ _ _ _ _ _ hq
def D_X12_inWay (N : Nat) (h : mh_H) (l0 : Nat) (l1 : Int32) (l2 : Int32) : Option (Int32 × mh_H) :=
  (gR h 12 l0 0).bind fun v1 =>
  (D_X12_way N h l1).bind fun q2 =>
  (aI q2.2 v1 ((q2.1 + (5 : Int32)) + l2)).bind fun v3 =>
  D_X12_inWay_17 N N q2.2 l0 l1 l2 v3 (0 : Int32)
set_option maxHeartbeats 4000000 in
set_option maxRecDepth 100000 in
theorem T_X12_inWay {P : mh_E → Prop} {N d : Nat} (hd : 2 ≤ d) {z : (Int32 × mh_H)} {h : mh_H} {l0 : Nat} {l1 : Int32} {l2 : Int32} (hq : D_X12_inWay N h l0 l1 l2 = some z) : mh_go P d mX12_inWay 0 [some (.ref l0), some (.int l1), some (.int l2), none, none] [] h (some (.int z.1)) z.2 := by
  unfold D_X12_inWay at hq
  refine st_aload_n (pc := 0) dX12_inWay_0 rfl ?_
  refine bd_getr (pc := 1) hq dX12_inWay_1 fl_12_9_12 rfl (fun v1 hq => ?_)
  refine st_iload_n (pc := 4) dX12_inWay_4 rfl ?_
  obtain ⟨q2, e2, hq⟩ := mh_ob hq
  refine st_invS (pc := 5) (Y := mX12_way) (vs := [.int l1]) (rest := [.ref v1]) (st2 := [.int q2.1, .ref v1]) dX12_inWay_5 okX12_way wd_1309 wd_1310 pdX12_way rfl rfl rfl rfl (Nat.le_trans (by decide) hd) (Nat.le_of_ble_eq_true rfl) (T_X12_way (Nat.le_refl _) e2) rfl ?_
  refine st_iconst (pc := 8) (v := (5 : Int32)) dX12_inWay_8 rfl ?_
  refine st_iadd (pc := 9) dX12_inWay_9 ?_
  refine st_iload_n (pc := 10) dX12_inWay_10 rfl ?_
  refine st_iadd (pc := 11) dX12_inWay_11 ?_
  refine bd_iald (pc := 12) hq dX12_inWay_12 (fun v3 hq => ?_)
  refine st_istore_n (pc := 13) (lv' := [some (.ref l0), some (.int l1), some (.int l2), some (.int v3), none]) dX12_inWay_13 rfl (by decide) rfl ?_
  refine st_iconst (pc := 14) (v := (0 : Int32)) dX12_inWay_14 rfl ?_
  refine st_istore (pc := 15) (lv' := [some (.ref l0), some (.int l1), some (.int l2), some (.int v3), some (.int (0 : Int32))]) dX12_inWay_15 rfl (by decide) rfl ?_
  exact T_X12_inWay_17 hd N _ _ _ _ _ _ hq
-- HoleWaterModel.wayIs(II)I
theorem dX12_wayIs_20 : decode cX12_wayIs 20 = .ok (.aload_n 0, 1) := by decide +kernel
theorem dX12_wayIs_21 : decode cX12_wayIs 21 = .ok (.iconst 1, 1) := by decide +kernel
theorem dX12_wayIs_22 : decode cX12_wayIs 22 = .ok (.invokevirtual 80, 3) := by decide +kernel
theorem dX12_wayIs_25 : decode cX12_wayIs 25 = .ok (.ireturn, 1) := by decide +kernel
theorem dX12_wayIs_0 : decode cX12_wayIs 0 = .ok (.aload_n 0, 1) := by decide +kernel
theorem dX12_wayIs_1 : decode cX12_wayIs 1 = .ok (.iload_n 1, 1) := by decide +kernel
theorem dX12_wayIs_2 : decode cX12_wayIs 2 = .ok (.invokevirtual 109, 3) := by decide +kernel
theorem dX12_wayIs_5 : decode cX12_wayIs 5 = .ok (.ifCond .eq 15, 3) := by decide +kernel
theorem dX12_wayIs_8 : decode cX12_wayIs 8 = .ok (.iload_n 2, 1) := by decide +kernel
theorem dX12_wayIs_9 : decode cX12_wayIs 9 = .ok (.i2l, 1) := by decide +kernel
theorem dX12_wayIs_10 : decode cX12_wayIs 10 = .ok (.lconst 0, 1) := by decide +kernel
theorem dX12_wayIs_11 : decode cX12_wayIs 11 = .ok (.ldc2_w 87, 3) := by decide +kernel
theorem dX12_wayIs_14 : decode cX12_wayIs 14 = .ok (.invokestatic 65, 3) := by decide +kernel
theorem dX12_wayIs_17 : decode cX12_wayIs 17 = .ok (.ifCond .ne 9, 3) := by decide +kernel
theorem dX12_wayIs_26 : decode cX12_wayIs 26 = .ok (.iload_n 2, 1) := by decide +kernel
theorem dX12_wayIs_27 : decode cX12_wayIs 27 = .ok (.iconst 5, 1) := by decide +kernel
theorem dX12_wayIs_28 : decode cX12_wayIs 28 = .ok (.if_icmp .ge 17, 3) := by decide +kernel
theorem dX12_wayIs_45 : decode cX12_wayIs 45 = .ok (.iload_n 2, 1) := by decide +kernel
theorem dX12_wayIs_46 : decode cX12_wayIs 46 = .ok (.iconst 5, 1) := by decide +kernel
theorem dX12_wayIs_47 : decode cX12_wayIs 47 = .ok (.if_icmp .ne 11, 3) := by decide +kernel
theorem dX12_wayIs_50 : decode cX12_wayIs 50 = .ok (.aload_n 0, 1) := by decide +kernel
theorem dX12_wayIs_51 : decode cX12_wayIs 51 = .ok (.iload_n 1, 1) := by decide +kernel
theorem dX12_wayIs_52 : decode cX12_wayIs 52 = .ok (.invokevirtual 112, 3) := by decide +kernel
theorem dX12_wayIs_55 : decode cX12_wayIs 55 = .ok (.goto 9, 3) := by decide +kernel
theorem dX12_wayIs_64 : decode cX12_wayIs 64 = .ok (.ireturn, 1) := by decide +kernel
theorem dX12_wayIs_58 : decode cX12_wayIs 58 = .ok (.aload_n 0, 1) := by decide +kernel
theorem dX12_wayIs_59 : decode cX12_wayIs 59 = .ok (.iload_n 1, 1) := by decide +kernel
theorem dX12_wayIs_60 : decode cX12_wayIs 60 = .ok (.iconst 0, 1) := by decide +kernel
theorem dX12_wayIs_61 : decode cX12_wayIs 61 = .ok (.invokevirtual 115, 3) := by decide +kernel
theorem dX12_wayIs_31 : decode cX12_wayIs 31 = .ok (.aload_n 0, 1) := by decide +kernel
theorem dX12_wayIs_32 : decode cX12_wayIs 32 = .ok (.getfield 9, 3) := by decide +kernel
theorem dX12_wayIs_35 : decode cX12_wayIs 35 = .ok (.iload_n 1, 1) := by decide +kernel
theorem dX12_wayIs_36 : decode cX12_wayIs 36 = .ok (.invokestatic 99, 3) := by decide +kernel
theorem dX12_wayIs_39 : decode cX12_wayIs 39 = .ok (.iload_n 2, 1) := by decide +kernel
theorem dX12_wayIs_40 : decode cX12_wayIs 40 = .ok (.iadd, 1) := by decide +kernel
theorem dX12_wayIs_41 : decode cX12_wayIs 41 = .ok (.iaload, 1) := by decide +kernel
theorem dX12_wayIs_42 : decode cX12_wayIs 42 = .ok (.goto 22, 3) := by decide +kernel
def D_X12_wayIs_20 (N : Nat) (h : mh_H) (l0 : Nat) : Option (Int32 × mh_H) :=
  kO h 12 l0 <|
  (D_X12_error N h l0 (1 : Int32)).bind fun q1 =>
  some (q1.1, q1.2)
set_option maxHeartbeats 4000000 in
set_option maxRecDepth 100000 in
theorem T_X12_wayIs_20 {P : mh_E → Prop} {N d : Nat} (hd : 4 ≤ d) {z : (Int32 × mh_H)} {h : mh_H} {l0 : Nat} (hq : D_X12_wayIs_20 N h l0 = some z) : mh_go P d mX12_wayIs 20 [some (.ref l0), none, none] [] h (some (.int z.1)) z.2 := by
  unfold D_X12_wayIs_20 at hq
  refine st_aload_n (pc := 20) dX12_wayIs_20 rfl ?_
  refine st_iconst (pc := 21) (v := (1 : Int32)) dX12_wayIs_21 rfl ?_
  obtain ⟨⟨hbq1, hkq1⟩, hq⟩ := mh_oi hq
  obtain ⟨q1, e1, hq⟩ := mh_ob hq
  refine st_invV (pc := 22) (ci := 12) (vs := [.int (1 : Int32)]) (rest := []) (st2 := [.int q1.1]) dX12_wayIs_22 okX12_error (by decide) hkq1 hbq1 wd_1274 wd_1276 wp_37 pdX12_error rfl rfl rfl rfl (Nat.le_trans (by decide) hd) (Nat.le_of_ble_eq_true rfl) (T_X12_error (Nat.le_refl _) e1) rfl ?_
  exact bd_iret (pc := 25) hq dX12_wayIs_25 rfl
def D_X12_wayIs (N : Nat) (h : mh_H) (l0 : Nat) (l1 : Int32) (l2 : Int32) : Option (Int32 × mh_H) :=
  kO h 12 l0 <|
  (D_X12_isWay N h l0 l1).bind fun q1 =>
  if q1.1 = 0 then (D_X12_wayIs_20 N q1.2 l0)
  else ((D_X12_in N q1.2 l2.toInt64 (0 : Int64) (6 : Int64)).bind fun q2 =>
  if q2.1 = 0 then (D_X12_wayIs_20 N q2.2 l0)
  else (if (5 : Int32) ≤ l2 then (if l2 = (5 : Int32) then (kO q2.2 12 l0 <|
  (D_X12_takes N q2.2 l0 l1).bind fun q3 =>
  some (q3.1, q3.2))
  else (kO q2.2 12 l0 <|
  (D_X12_inWay N q2.2 l0 l1 (0 : Int32)).bind fun q3 =>
  some (q3.1, q3.2)))
  else ((gR q2.2 12 l0 0).bind fun v3 =>
  (D_X12_way N q2.2 l1).bind fun q4 =>
  (aI q4.2 v3 (q4.1 + l2)).bind fun v5 =>
  some (v5, q4.2))))
set_option maxHeartbeats 4000000 in
set_option maxRecDepth 100000 in
theorem T_X12_wayIs {P : mh_E → Prop} {N d : Nat} (hd : 4 ≤ d) {z : (Int32 × mh_H)} {h : mh_H} {l0 : Nat} {l1 : Int32} {l2 : Int32} (hq : D_X12_wayIs N h l0 l1 l2 = some z) : mh_go P d mX12_wayIs 0 [some (.ref l0), some (.int l1), some (.int l2)] [] h (some (.int z.1)) z.2 := by
  unfold D_X12_wayIs at hq
  refine st_aload_n (pc := 0) dX12_wayIs_0 rfl ?_
  refine st_iload_n (pc := 1) dX12_wayIs_1 rfl ?_
  obtain ⟨⟨hbq1, hkq1⟩, hq⟩ := mh_oi hq
  obtain ⟨q1, e1, hq⟩ := mh_ob hq
  refine st_invV (pc := 2) (ci := 12) (vs := [.int l1]) (rest := []) (st2 := [.int q1.1]) dX12_wayIs_2 okX12_isWay (by decide) hkq1 hbq1 wd_1316 wd_1318 wp_42 pdX12_isWay rfl rfl rfl rfl (Nat.le_trans (by decide) hd) (Nat.le_of_ble_eq_true rfl) (T_X12_isWay (Nat.le_refl _) e1) rfl ?_
  refine bd_if_eq (pc := 5) (tgt := 20) hq dX12_wayIs_5 (by decide) (fun _ hq => ?_) (fun _ hq => ?_)
  ·
    refine st_lesS (lv' := [some (.ref l0), none, none]) ⟨Or.inr rfl, Or.inl rfl, Or.inl rfl, trivial⟩ ?_
    exact T_X12_wayIs_20 hd hq
  ·
    refine st_iload_n (pc := 8) dX12_wayIs_8 rfl ?_
    refine st_i2l (pc := 9) dX12_wayIs_9 ?_
    refine st_lconst (pc := 10) (v := 0) dX12_wayIs_10 rfl ?_
    refine st_ldc2 (pc := 11) (v := (6 : Int64)) dX12_wayIs_11 wd_1290 ?_
    obtain ⟨q2, e2, hq⟩ := mh_ob hq
    refine st_invS (pc := 14) (Y := mX12_in) (vs := [.long l2.toInt64, .long (0 : Int64), .long (6 : Int64)]) (rest := []) (st2 := [.int q2.1]) dX12_wayIs_14 okX12_in wd_1270 wd_1271 pdX12_in rfl rfl rfl rfl (Nat.le_trans (by decide) hd) (Nat.le_of_ble_eq_true rfl) (T_X12_in (Nat.le_refl _) e2) rfl ?_
    refine bd_if_ne (pc := 17) (tgt := 26) hq dX12_wayIs_17 (by decide) (fun _ hq => ?_) (fun _ hq => ?_)
    ·
      refine st_lesS (lv' := [some (.ref l0), none, none]) ⟨Or.inr rfl, Or.inl rfl, Or.inl rfl, trivial⟩ ?_
      exact T_X12_wayIs_20 hd hq
    ·
      refine st_iload_n (pc := 26) dX12_wayIs_26 rfl ?_
      refine st_iconst (pc := 27) (v := (5 : Int32)) dX12_wayIs_27 rfl ?_
      refine bd_icmp_ge (pc := 28) (tgt := 45) hq dX12_wayIs_28 (by decide) (fun _ hq => ?_) (fun _ hq => ?_)
      ·
        refine st_iload_n (pc := 45) dX12_wayIs_45 rfl ?_
        refine st_iconst (pc := 46) (v := (5 : Int32)) dX12_wayIs_46 rfl ?_
        refine bd_icmp_ne (pc := 47) (tgt := 58) hq dX12_wayIs_47 (by decide) (fun _ hq => ?_) (fun _ hq => ?_)
        ·
          refine st_aload_n (pc := 50) dX12_wayIs_50 rfl ?_
          refine st_iload_n (pc := 51) dX12_wayIs_51 rfl ?_
          obtain ⟨⟨hbq3, hkq3⟩, hq⟩ := mh_oi hq
          obtain ⟨q3, e3, hq⟩ := mh_ob hq
          refine st_invV (pc := 52) (ci := 12) (vs := [.int l1]) (rest := []) (st2 := [.int q3.1]) dX12_wayIs_52 okX12_takes (by decide) hkq3 hbq3 wd_1326 wd_1328 wp_43 pdX12_takes rfl rfl rfl rfl (Nat.le_trans (by decide) hd) (Nat.le_of_ble_eq_true rfl) (T_X12_takes (Nat.le_refl _) e3) rfl ?_
          refine st_goto (pc := 55) (tgt := 64) dX12_wayIs_55 (by decide) ?_
          exact bd_iret (pc := 64) hq dX12_wayIs_64 rfl
        ·
          refine st_aload_n (pc := 58) dX12_wayIs_58 rfl ?_
          refine st_iload_n (pc := 59) dX12_wayIs_59 rfl ?_
          refine st_iconst (pc := 60) (v := (0 : Int32)) dX12_wayIs_60 rfl ?_
          obtain ⟨⟨hbq3, hkq3⟩, hq⟩ := mh_oi hq
          obtain ⟨q3, e3, hq⟩ := mh_ob hq
          refine st_invV (pc := 61) (ci := 12) (vs := [.int l1, .int (0 : Int32)]) (rest := []) (st2 := [.int q3.1]) dX12_wayIs_61 okX12_inWay (by decide) hkq3 hbq3 wd_1334 wd_1336 wp_44 pdX12_inWay rfl rfl rfl rfl (Nat.le_trans (by decide) hd) (Nat.le_of_ble_eq_true rfl) (T_X12_inWay (Nat.le_refl _) e3) rfl ?_
          exact bd_iret (pc := 64) hq dX12_wayIs_64 rfl
      ·
        refine st_aload_n (pc := 31) dX12_wayIs_31 rfl ?_
        refine bd_getr (pc := 32) hq dX12_wayIs_32 fl_12_9_12 rfl (fun v3 hq => ?_)
        refine st_iload_n (pc := 35) dX12_wayIs_35 rfl ?_
        obtain ⟨q4, e4, hq⟩ := mh_ob hq
        refine st_invS (pc := 36) (Y := mX12_way) (vs := [.int l1]) (rest := [.ref v3]) (st2 := [.int q4.1, .ref v3]) dX12_wayIs_36 okX12_way wd_1309 wd_1310 pdX12_way rfl rfl rfl rfl (Nat.le_trans (by decide) hd) (Nat.le_of_ble_eq_true rfl) (T_X12_way (Nat.le_refl _) e4) rfl ?_
        refine st_iload_n (pc := 39) dX12_wayIs_39 rfl ?_
        refine st_iadd (pc := 40) dX12_wayIs_40 ?_
        refine bd_iald (pc := 41) hq dX12_wayIs_41 (fun v5 hq => ?_)
        refine st_goto (pc := 42) (tgt := 64) dX12_wayIs_42 (by decide) ?_
        exact bd_iret (pc := 64) hq dX12_wayIs_64 rfl
-- HoleWaterModel.findFar(IZ)V
theorem dX12_findFar_23 : decode cX12_findFar 23 = .ok (.iastore, 1) := by decide +kernel
theorem dX12_findFar_24 : decode cX12_findFar 24 = .ok (.iinc 3 1, 3) := by decide +kernel
theorem dX12_findFar_27 : decode cX12_findFar 27 = .ok (.goto (-25), 3) := by decide +kernel
theorem dX12_findFar_170 : decode cX12_findFar 170 = .ok (.iinc 4 1, 3) := by decide +kernel
theorem dX12_findFar_173 : decode cX12_findFar 173 = .ok (.goto (-132), 3) := by decide +kernel
theorem dX12_findFar_159 : decode cX12_findFar 159 = .ok (.aload_n 0, 1) := by decide +kernel
theorem dX12_findFar_160 : decode cX12_findFar 160 = .ok (.getfield 22, 3) := by decide +kernel
theorem dX12_findFar_163 : decode cX12_findFar 163 = .ok (.iload 7, 2) := by decide +kernel
theorem dX12_findFar_165 : decode cX12_findFar 165 = .ok (.iload 8, 2) := by decide +kernel
theorem dX12_findFar_167 : decode cX12_findFar 167 = .ok (.iastore, 1) := by decide +kernel
theorem dX12_findFar_168 : decode cX12_findFar 168 = .ok (.iconst 1, 1) := by decide +kernel
theorem dX12_findFar_169 : decode cX12_findFar 169 = .ok (.istore_n 3, 1) := by decide +kernel
theorem dX12_findFar_108 : decode cX12_findFar 108 = .ok (.aload_n 0, 1) := by decide +kernel
theorem dX12_findFar_109 : decode cX12_findFar 109 = .ok (.getfield 22, 3) := by decide +kernel
theorem dX12_findFar_112 : decode cX12_findFar 112 = .ok (.iload 6, 2) := by decide +kernel
theorem dX12_findFar_114 : decode cX12_findFar 114 = .ok (.iaload, 1) := by decide +kernel
theorem dX12_findFar_115 : decode cX12_findFar 115 = .ok (.ifCond .ge 6, 3) := by decide +kernel
theorem dX12_findFar_121 : decode cX12_findFar 121 = .ok (.aload_n 0, 1) := by decide +kernel
theorem dX12_findFar_122 : decode cX12_findFar 122 = .ok (.getfield 22, 3) := by decide +kernel
theorem dX12_findFar_125 : decode cX12_findFar 125 = .ok (.iload 6, 2) := by decide +kernel
theorem dX12_findFar_127 : decode cX12_findFar 127 = .ok (.iaload, 1) := by decide +kernel
theorem dX12_findFar_128 : decode cX12_findFar 128 = .ok (.aload_n 0, 1) := by decide +kernel
theorem dX12_findFar_129 : decode cX12_findFar 129 = .ok (.iload 4, 2) := by decide +kernel
theorem dX12_findFar_131 : decode cX12_findFar 131 = .ok (.invokevirtual 112, 3) := by decide +kernel
theorem dX12_findFar_134 : decode cX12_findFar 134 = .ok (.iadd, 1) := by decide +kernel
theorem dX12_findFar_135 : decode cX12_findFar 135 = .ok (.istore 8, 2) := by decide +kernel
theorem dX12_findFar_137 : decode cX12_findFar 137 = .ok (.aload_n 0, 1) := by decide +kernel
theorem dX12_findFar_138 : decode cX12_findFar 138 = .ok (.getfield 22, 3) := by decide +kernel
theorem dX12_findFar_141 : decode cX12_findFar 141 = .ok (.iload 7, 2) := by decide +kernel
theorem dX12_findFar_143 : decode cX12_findFar 143 = .ok (.iaload, 1) := by decide +kernel
theorem dX12_findFar_144 : decode cX12_findFar 144 = .ok (.ifCond .lt 15, 3) := by decide +kernel
theorem dX12_findFar_147 : decode cX12_findFar 147 = .ok (.iload 8, 2) := by decide +kernel
theorem dX12_findFar_149 : decode cX12_findFar 149 = .ok (.aload_n 0, 1) := by decide +kernel
theorem dX12_findFar_150 : decode cX12_findFar 150 = .ok (.getfield 22, 3) := by decide +kernel
theorem dX12_findFar_153 : decode cX12_findFar 153 = .ok (.iload 7, 2) := by decide +kernel
theorem dX12_findFar_155 : decode cX12_findFar 155 = .ok (.iaload, 1) := by decide +kernel
theorem dX12_findFar_156 : decode cX12_findFar 156 = .ok (.if_icmp .ge 14, 3) := by decide +kernel
theorem dX12_findFar_118 : decode cX12_findFar 118 = .ok (.goto 52, 3) := by decide +kernel
theorem dX12_findFar_41 : decode cX12_findFar 41 = .ok (.iload 4, 2) := by decide +kernel
theorem dX12_findFar_43 : decode cX12_findFar 43 = .ok (.aload_n 0, 1) := by decide +kernel
theorem dX12_findFar_44 : decode cX12_findFar 44 = .ok (.getfield 9, 3) := by decide +kernel
theorem dX12_findFar_47 : decode cX12_findFar 47 = .ok (.iconst 2, 1) := by decide +kernel
theorem dX12_findFar_48 : decode cX12_findFar 48 = .ok (.iaload, 1) := by decide +kernel
theorem dX12_findFar_49 : decode cX12_findFar 49 = .ok (.if_icmp .ge 127, 3) := by decide +kernel
theorem dX12_findFar_176 : decode cX12_findFar 176 = .ok (.goto (-144), 3) := by decide +kernel
theorem dX12_findFar_52 : decode cX12_findFar 52 = .ok (.aload_n 0, 1) := by decide +kernel
theorem dX12_findFar_53 : decode cX12_findFar 53 = .ok (.getfield 9, 3) := by decide +kernel
theorem dX12_findFar_56 : decode cX12_findFar 56 = .ok (.iload 4, 2) := by decide +kernel
theorem dX12_findFar_58 : decode cX12_findFar 58 = .ok (.invokestatic 99, 3) := by decide +kernel
theorem dX12_findFar_61 : decode cX12_findFar 61 = .ok (.iaload, 1) := by decide +kernel
theorem dX12_findFar_62 : decode cX12_findFar 62 = .ok (.istore 5, 2) := by decide +kernel
theorem dX12_findFar_64 : decode cX12_findFar 64 = .ok (.aload_n 0, 1) := by decide +kernel
theorem dX12_findFar_65 : decode cX12_findFar 65 = .ok (.getfield 9, 3) := by decide +kernel
theorem dX12_findFar_68 : decode cX12_findFar 68 = .ok (.iload 4, 2) := by decide +kernel
theorem dX12_findFar_70 : decode cX12_findFar 70 = .ok (.invokestatic 99, 3) := by decide +kernel
theorem dX12_findFar_73 : decode cX12_findFar 73 = .ok (.iconst 1, 1) := by decide +kernel
theorem dX12_findFar_74 : decode cX12_findFar 74 = .ok (.iadd, 1) := by decide +kernel
theorem dX12_findFar_75 : decode cX12_findFar 75 = .ok (.iaload, 1) := by decide +kernel
theorem dX12_findFar_76 : decode cX12_findFar 76 = .ok (.istore 6, 2) := by decide +kernel
theorem dX12_findFar_78 : decode cX12_findFar 78 = .ok (.aload_n 0, 1) := by decide +kernel
theorem dX12_findFar_79 : decode cX12_findFar 79 = .ok (.getfield 9, 3) := by decide +kernel
theorem dX12_findFar_82 : decode cX12_findFar 82 = .ok (.iload 4, 2) := by decide +kernel
theorem dX12_findFar_84 : decode cX12_findFar 84 = .ok (.invokestatic 99, 3) := by decide +kernel
theorem dX12_findFar_87 : decode cX12_findFar 87 = .ok (.iconst 2, 1) := by decide +kernel
theorem dX12_findFar_88 : decode cX12_findFar 88 = .ok (.iadd, 1) := by decide +kernel
theorem dX12_findFar_89 : decode cX12_findFar 89 = .ok (.iaload, 1) := by decide +kernel
theorem dX12_findFar_90 : decode cX12_findFar 90 = .ok (.istore 7, 2) := by decide +kernel
theorem dX12_findFar_92 : decode cX12_findFar 92 = .ok (.iload 5, 2) := by decide +kernel
theorem dX12_findFar_94 : decode cX12_findFar 94 = .ok (.iconst 5, 1) := by decide +kernel
theorem dX12_findFar_95 : decode cX12_findFar 95 = .ok (.if_icmp .eq 75, 3) := by decide +kernel
theorem dX12_findFar_98 : decode cX12_findFar 98 = .ok (.iload 5, 2) := by decide +kernel
theorem dX12_findFar_100 : decode cX12_findFar 100 = .ok (.iconst 3, 1) := by decide +kernel
theorem dX12_findFar_101 : decode cX12_findFar 101 = .ok (.if_icmp .ne 7, 3) := by decide +kernel
theorem dX12_findFar_104 : decode cX12_findFar 104 = .ok (.iload_n 2, 1) := by decide +kernel
theorem dX12_findFar_105 : decode cX12_findFar 105 = .ok (.ifCond .eq 65, 3) := by decide +kernel
theorem dX12_findFar_32 : decode cX12_findFar 32 = .ok (.iload_n 3, 1) := by decide +kernel
theorem dX12_findFar_33 : decode cX12_findFar 33 = .ok (.ifCond .eq 146, 3) := by decide +kernel
theorem dX12_findFar_179 : decode cX12_findFar 179 = .ok (.return_, 1) := by decide +kernel
theorem dX12_findFar_36 : decode cX12_findFar 36 = .ok (.iconst 0, 1) := by decide +kernel
theorem dX12_findFar_37 : decode cX12_findFar 37 = .ok (.istore_n 3, 1) := by decide +kernel
theorem dX12_findFar_38 : decode cX12_findFar 38 = .ok (.iconst 0, 1) := by decide +kernel
theorem dX12_findFar_39 : decode cX12_findFar 39 = .ok (.istore 4, 2) := by decide +kernel
theorem dX12_findFar_2 : decode cX12_findFar 2 = .ok (.iload_n 3, 1) := by decide +kernel
theorem dX12_findFar_3 : decode cX12_findFar 3 = .ok (.bipush 16, 2) := by decide +kernel
theorem dX12_findFar_5 : decode cX12_findFar 5 = .ok (.if_icmp .ge 25, 3) := by decide +kernel
theorem dX12_findFar_30 : decode cX12_findFar 30 = .ok (.iconst 1, 1) := by decide +kernel
theorem dX12_findFar_31 : decode cX12_findFar 31 = .ok (.istore_n 3, 1) := by decide +kernel
theorem dX12_findFar_8 : decode cX12_findFar 8 = .ok (.aload_n 0, 1) := by decide +kernel
theorem dX12_findFar_9 : decode cX12_findFar 9 = .ok (.getfield 22, 3) := by decide +kernel
theorem dX12_findFar_12 : decode cX12_findFar 12 = .ok (.iload_n 3, 1) := by decide +kernel
theorem dX12_findFar_13 : decode cX12_findFar 13 = .ok (.iload_n 3, 1) := by decide +kernel
theorem dX12_findFar_14 : decode cX12_findFar 14 = .ok (.iload_n 1, 1) := by decide +kernel
theorem dX12_findFar_15 : decode cX12_findFar 15 = .ok (.if_icmp .ne 7, 3) := by decide +kernel
theorem dX12_findFar_18 : decode cX12_findFar 18 = .ok (.iconst 0, 1) := by decide +kernel
theorem dX12_findFar_19 : decode cX12_findFar 19 = .ok (.goto 4, 3) := by decide +kernel
theorem dX12_findFar_22 : decode cX12_findFar 22 = .ok (.iconst (-1), 1) := by decide +kernel
theorem dX12_findFar_0 : decode cX12_findFar 0 = .ok (.iconst 0, 1) := by decide +kernel
theorem dX12_findFar_1 : decode cX12_findFar 1 = .ok (.istore_n 3, 1) := by decide +kernel
def D_X12_findFar_23 (N : Nat) (k2 : mh_H → Nat → Int32 → Int32 → Int32 → Option mh_H) (h : mh_H) (l0 : Nat) (l1 : Int32) (l2 : Int32) (l3 : Int32) (s0 : Nat) (s1 : Int32) (s2 : Int32) : Option mh_H :=
  (uI h s0 s1 s2).bind fun h1 =>
  k2 h1 l0 l1 l2 (l3 + Int32.ofInt (1))
set_option maxHeartbeats 4000000 in
set_option maxRecDepth 100000 in
theorem T_X12_findFar_23 {P : mh_E → Prop} {N d : Nat} (hd : 4 ≤ d) {z : mh_H} {k2 : mh_H → Nat → Int32 → Int32 → Int32 → Option mh_H} (hk2 : ∀ (h : mh_H) (l0 : Nat) (l1 : Int32) (l2 : Int32) (l3 : Int32), k2 h l0 l1 l2 l3 = some z → mh_go P d mX12_findFar 2 [some (.ref l0), some (.int l1), some (.int l2), some (.int l3), none, none, none, none, none] [] h none z) {h : mh_H} {l0 : Nat} {l1 : Int32} {l2 : Int32} {l3 : Int32} {s0 : Nat} {s1 : Int32} {s2 : Int32} (hq : D_X12_findFar_23 N k2 h l0 l1 l2 l3 s0 s1 s2 = some z) : mh_go P d mX12_findFar 23 [some (.ref l0), some (.int l1), some (.int l2), some (.int l3), none, none, none, none, none] [.int s2, .int s1, .ref s0] h none z := by
  unfold D_X12_findFar_23 at hq
  refine bd_iast (pc := 23) hq dX12_findFar_23 (fun h1 hq => ?_)
  refine st_iinc (pc := 24) (lv' := [some (.ref l0), some (.int l1), some (.int l2), some (.int (l3 + Int32.ofInt (1))), none, none, none, none, none]) dX12_findFar_24 rfl rfl (by decide) rfl ?_
  refine st_goto (pc := 27) (tgt := 2) dX12_findFar_27 (by decide) ?_
  exact hk2 _ _ _ _ _ hq
def D_X12_findFar_170 (N : Nat) (k32 : mh_H → Nat → Int32 → Int32 → Option mh_H) (k41 : mh_H → Nat → Int32 → Int32 → Int32 → Option mh_H) (h : mh_H) (l0 : Nat) (l2 : Int32) (l3 : Int32) (l4 : Int32) : Option mh_H :=
  k41 h l0 l2 l3 (l4 + Int32.ofInt (1))
set_option maxHeartbeats 4000000 in
set_option maxRecDepth 100000 in
theorem T_X12_findFar_170 {P : mh_E → Prop} {N d : Nat} (hd : 4 ≤ d) {z : mh_H} {k32 : mh_H → Nat → Int32 → Int32 → Option mh_H} (hk32 : ∀ (h : mh_H) (l0 : Nat) (l2 : Int32) (l3 : Int32), k32 h l0 l2 l3 = some z → mh_go P d mX12_findFar 32 [some (.ref l0), none, some (.int l2), some (.int l3), none, none, none, none, none] [] h none z) {k41 : mh_H → Nat → Int32 → Int32 → Int32 → Option mh_H} (hk41 : ∀ (h : mh_H) (l0 : Nat) (l2 : Int32) (l3 : Int32) (l4 : Int32), k41 h l0 l2 l3 l4 = some z → mh_go P d mX12_findFar 41 [some (.ref l0), none, some (.int l2), some (.int l3), some (.int l4), none, none, none, none] [] h none z) {h : mh_H} {l0 : Nat} {l2 : Int32} {l3 : Int32} {l4 : Int32} (hq : D_X12_findFar_170 N k32 k41 h l0 l2 l3 l4 = some z) : mh_go P d mX12_findFar 170 [some (.ref l0), none, some (.int l2), some (.int l3), some (.int l4), none, none, none, none] [] h none z := by
  unfold D_X12_findFar_170 at hq
  refine st_iinc (pc := 170) (lv' := [some (.ref l0), none, some (.int l2), some (.int l3), some (.int (l4 + Int32.ofInt (1))), none, none, none, none]) dX12_findFar_170 rfl rfl (by decide) rfl ?_
  refine st_goto (pc := 173) (tgt := 41) dX12_findFar_173 (by decide) ?_
  exact hk41 _ _ _ _ _ hq
def D_X12_findFar_159 (N : Nat) (k32 : mh_H → Nat → Int32 → Int32 → Option mh_H) (k41 : mh_H → Nat → Int32 → Int32 → Int32 → Option mh_H) (h : mh_H) (l0 : Nat) (l2 : Int32) (l4 : Int32) (l7 : Int32) (l8 : Int32) : Option mh_H :=
  (gR h 12 l0 5).bind fun v1 =>
  (uI h v1 l7 l8).bind fun h2 =>
  D_X12_findFar_170 N k32 k41 h2 l0 l2 (1 : Int32) l4
set_option maxHeartbeats 4000000 in
set_option maxRecDepth 100000 in
theorem T_X12_findFar_159 {P : mh_E → Prop} {N d : Nat} (hd : 4 ≤ d) {z : mh_H} {k32 : mh_H → Nat → Int32 → Int32 → Option mh_H} (hk32 : ∀ (h : mh_H) (l0 : Nat) (l2 : Int32) (l3 : Int32), k32 h l0 l2 l3 = some z → mh_go P d mX12_findFar 32 [some (.ref l0), none, some (.int l2), some (.int l3), none, none, none, none, none] [] h none z) {k41 : mh_H → Nat → Int32 → Int32 → Int32 → Option mh_H} (hk41 : ∀ (h : mh_H) (l0 : Nat) (l2 : Int32) (l3 : Int32) (l4 : Int32), k41 h l0 l2 l3 l4 = some z → mh_go P d mX12_findFar 41 [some (.ref l0), none, some (.int l2), some (.int l3), some (.int l4), none, none, none, none] [] h none z) {h : mh_H} {l0 : Nat} {l2 : Int32} {l4 : Int32} {l7 : Int32} {l8 : Int32} (hq : D_X12_findFar_159 N k32 k41 h l0 l2 l4 l7 l8 = some z) : mh_go P d mX12_findFar 159 [some (.ref l0), none, some (.int l2), none, some (.int l4), none, none, some (.int l7), some (.int l8)] [] h none z := by
  unfold D_X12_findFar_159 at hq
  refine st_aload_n (pc := 159) dX12_findFar_159 rfl ?_
  refine bd_getr (pc := 160) hq dX12_findFar_160 fl_12_22_12 rfl (fun v1 hq => ?_)
  refine st_iload (pc := 163) dX12_findFar_163 rfl ?_
  refine st_iload (pc := 165) dX12_findFar_165 rfl ?_
  refine bd_iast (pc := 167) hq dX12_findFar_167 (fun h2 hq => ?_)
  refine st_iconst (pc := 168) (v := (1 : Int32)) dX12_findFar_168 rfl ?_
  refine st_istore_n (pc := 169) (lv' := [some (.ref l0), none, some (.int l2), some (.int (1 : Int32)), some (.int l4), none, none, some (.int l7), some (.int l8)]) dX12_findFar_169 rfl (by decide) rfl ?_
  refine st_lesS (lv' := [some (.ref l0), none, some (.int l2), some (.int (1 : Int32)), some (.int l4), none, none, none, none]) ⟨Or.inr rfl, Or.inr rfl, Or.inr rfl, Or.inr rfl, Or.inr rfl, Or.inr rfl, Or.inr rfl, Or.inl rfl, Or.inl rfl, trivial⟩ ?_
  exact T_X12_findFar_170 hd hk32 hk41 hq
def D_X12_findFar_108 (N : Nat) (k32 : mh_H → Nat → Int32 → Int32 → Option mh_H) (k41 : mh_H → Nat → Int32 → Int32 → Int32 → Option mh_H) (h : mh_H) (l0 : Nat) (l2 : Int32) (l3 : Int32) (l4 : Int32) (l6 : Int32) (l7 : Int32) : Option mh_H :=
  (gR h 12 l0 5).bind fun v1 =>
  (aI h v1 l6).bind fun v2 =>
  if 0 ≤ v2 then ((gR h 12 l0 5).bind fun v3 =>
  (aI h v3 l6).bind fun v4 =>
  kO h 12 l0 <|
  (D_X12_takes N h l0 l4).bind fun q5 =>
  (gR q5.2 12 l0 5).bind fun v6 =>
  (aI q5.2 v6 l7).bind fun v7 =>
  if v7 < 0 then (D_X12_findFar_159 N k32 k41 q5.2 l0 l2 l4 l7 (v4 + q5.1))
  else ((gR q5.2 12 l0 5).bind fun v8 =>
  (aI q5.2 v8 l7).bind fun v9 =>
  if v9 ≤ (v4 + q5.1) then (D_X12_findFar_170 N k32 k41 q5.2 l0 l2 l3 l4)
  else (D_X12_findFar_159 N k32 k41 q5.2 l0 l2 l4 l7 (v4 + q5.1))))
  else (D_X12_findFar_170 N k32 k41 h l0 l2 l3 l4)
set_option maxHeartbeats 4000000 in
set_option maxRecDepth 100000 in
theorem T_X12_findFar_108 {P : mh_E → Prop} {N d : Nat} (hd : 4 ≤ d) {z : mh_H} {k32 : mh_H → Nat → Int32 → Int32 → Option mh_H} (hk32 : ∀ (h : mh_H) (l0 : Nat) (l2 : Int32) (l3 : Int32), k32 h l0 l2 l3 = some z → mh_go P d mX12_findFar 32 [some (.ref l0), none, some (.int l2), some (.int l3), none, none, none, none, none] [] h none z) {k41 : mh_H → Nat → Int32 → Int32 → Int32 → Option mh_H} (hk41 : ∀ (h : mh_H) (l0 : Nat) (l2 : Int32) (l3 : Int32) (l4 : Int32), k41 h l0 l2 l3 l4 = some z → mh_go P d mX12_findFar 41 [some (.ref l0), none, some (.int l2), some (.int l3), some (.int l4), none, none, none, none] [] h none z) {h : mh_H} {l0 : Nat} {l2 : Int32} {l3 : Int32} {l4 : Int32} {l6 : Int32} {l7 : Int32} (hq : D_X12_findFar_108 N k32 k41 h l0 l2 l3 l4 l6 l7 = some z) : mh_go P d mX12_findFar 108 [some (.ref l0), none, some (.int l2), some (.int l3), some (.int l4), none, some (.int l6), some (.int l7), none] [] h none z := by
  unfold D_X12_findFar_108 at hq
  refine st_aload_n (pc := 108) dX12_findFar_108 rfl ?_
  refine bd_getr (pc := 109) hq dX12_findFar_109 fl_12_22_12 rfl (fun v1 hq => ?_)
  refine st_iload (pc := 112) dX12_findFar_112 rfl ?_
  refine bd_iald (pc := 114) hq dX12_findFar_114 (fun v2 hq => ?_)
  refine bd_if_ge (pc := 115) (tgt := 121) hq dX12_findFar_115 (by decide) (fun _ hq => ?_) (fun _ hq => ?_)
  ·
    refine st_aload_n (pc := 121) dX12_findFar_121 rfl ?_
    refine bd_getr (pc := 122) hq dX12_findFar_122 fl_12_22_12 rfl (fun v3 hq => ?_)
    refine st_iload (pc := 125) dX12_findFar_125 rfl ?_
    refine bd_iald (pc := 127) hq dX12_findFar_127 (fun v4 hq => ?_)
    refine st_aload_n (pc := 128) dX12_findFar_128 rfl ?_
    refine st_iload (pc := 129) dX12_findFar_129 rfl ?_
    obtain ⟨⟨hbq5, hkq5⟩, hq⟩ := mh_oi hq
    obtain ⟨q5, e5, hq⟩ := mh_ob hq
    refine st_invV (pc := 131) (ci := 12) (vs := [.int l4]) (rest := [.int v4]) (st2 := [.int q5.1, .int v4]) dX12_findFar_131 okX12_takes (by decide) hkq5 hbq5 wd_1326 wd_1328 wp_43 pdX12_takes rfl rfl rfl rfl (Nat.le_trans (by decide) hd) (Nat.le_of_ble_eq_true rfl) (T_X12_takes (Nat.le_refl _) e5) rfl ?_
    refine st_iadd (pc := 134) dX12_findFar_134 ?_
    refine st_istore (pc := 135) (lv' := [some (.ref l0), none, some (.int l2), some (.int l3), some (.int l4), none, some (.int l6), some (.int l7), some (.int (v4 + q5.1))]) dX12_findFar_135 rfl (by decide) rfl ?_
    refine st_aload_n (pc := 137) dX12_findFar_137 rfl ?_
    refine bd_getr (pc := 138) hq dX12_findFar_138 fl_12_22_12 rfl (fun v6 hq => ?_)
    refine st_iload (pc := 141) dX12_findFar_141 rfl ?_
    refine bd_iald (pc := 143) hq dX12_findFar_143 (fun v7 hq => ?_)
    refine bd_if_lt (pc := 144) (tgt := 159) hq dX12_findFar_144 (by decide) (fun _ hq => ?_) (fun _ hq => ?_)
    ·
      refine st_lesS (lv' := [some (.ref l0), none, some (.int l2), none, some (.int l4), none, none, some (.int l7), some (.int (v4 + q5.1))]) ⟨Or.inr rfl, Or.inr rfl, Or.inr rfl, Or.inl rfl, Or.inr rfl, Or.inr rfl, Or.inl rfl, Or.inr rfl, Or.inr rfl, trivial⟩ ?_
      exact T_X12_findFar_159 hd hk32 hk41 hq
    ·
      refine st_iload (pc := 147) dX12_findFar_147 rfl ?_
      refine st_aload_n (pc := 149) dX12_findFar_149 rfl ?_
      refine bd_getr (pc := 150) hq dX12_findFar_150 fl_12_22_12 rfl (fun v8 hq => ?_)
      refine st_iload (pc := 153) dX12_findFar_153 rfl ?_
      refine bd_iald (pc := 155) hq dX12_findFar_155 (fun v9 hq => ?_)
      refine bd_icmp_ge (pc := 156) (tgt := 170) hq dX12_findFar_156 (by decide) (fun _ hq => ?_) (fun _ hq => ?_)
      ·
        refine st_lesS (lv' := [some (.ref l0), none, some (.int l2), some (.int l3), some (.int l4), none, none, none, none]) ⟨Or.inr rfl, Or.inr rfl, Or.inr rfl, Or.inr rfl, Or.inr rfl, Or.inr rfl, Or.inl rfl, Or.inl rfl, Or.inl rfl, trivial⟩ ?_
        exact T_X12_findFar_170 hd hk32 hk41 hq
      ·
        refine st_lesS (lv' := [some (.ref l0), none, some (.int l2), none, some (.int l4), none, none, some (.int l7), some (.int (v4 + q5.1))]) ⟨Or.inr rfl, Or.inr rfl, Or.inr rfl, Or.inl rfl, Or.inr rfl, Or.inr rfl, Or.inl rfl, Or.inr rfl, Or.inr rfl, trivial⟩ ?_
        exact T_X12_findFar_159 hd hk32 hk41 hq
  ·
    refine st_goto (pc := 118) (tgt := 170) dX12_findFar_118 (by decide) ?_
    refine st_lesS (lv' := [some (.ref l0), none, some (.int l2), some (.int l3), some (.int l4), none, none, none, none]) ⟨Or.inr rfl, Or.inr rfl, Or.inr rfl, Or.inr rfl, Or.inr rfl, Or.inr rfl, Or.inl rfl, Or.inl rfl, Or.inr rfl, trivial⟩ ?_
    exact T_X12_findFar_170 hd hk32 hk41 hq
def D_X12_findFar_41 (N : Nat) (k32 : mh_H → Nat → Int32 → Int32 → Option mh_H) : Nat → mh_H → Nat → Int32 → Int32 → Int32 → Option mh_H
  | 0, _, _, _, _, _ => none
  | F + 1, h, l0, l2, l3, l4 =>
    (gR h 12 l0 0).bind fun v1 =>
    (aI h v1 (2 : Int32)).bind fun v2 =>
    if v2 ≤ l4 then (k32 h l0 l2 l3)
    else ((gR h 12 l0 0).bind fun v3 =>
    (D_X12_way N h l4).bind fun q4 =>
    (aI q4.2 v3 q4.1).bind fun v5 =>
    (gR q4.2 12 l0 0).bind fun v6 =>
    (D_X12_way N q4.2 l4).bind fun q7 =>
    (aI q7.2 v6 (q7.1 + (1 : Int32))).bind fun v8 =>
    (gR q7.2 12 l0 0).bind fun v9 =>
    (D_X12_way N q7.2 l4).bind fun q10 =>
    (aI q10.2 v9 (q10.1 + (2 : Int32))).bind fun v11 =>
    if v5 = (5 : Int32) then (D_X12_findFar_170 N k32 (D_X12_findFar_41 N k32 F) q10.2 l0 l2 l3 l4)
    else (if v5 = (3 : Int32) then (if l2 = 0 then (D_X12_findFar_170 N k32 (D_X12_findFar_41 N k32 F) q10.2 l0 l2 l3 l4)
    else (D_X12_findFar_108 N k32 (D_X12_findFar_41 N k32 F) q10.2 l0 l2 l3 l4 v8 v11))
    else (D_X12_findFar_108 N k32 (D_X12_findFar_41 N k32 F) q10.2 l0 l2 l3 l4 v8 v11)))
set_option maxHeartbeats 4000000 in
set_option maxRecDepth 100000 in
theorem T_X12_findFar_41 {P : mh_E → Prop} {N d : Nat} (hd : 4 ≤ d) {z : mh_H} {k32 : mh_H → Nat → Int32 → Int32 → Option mh_H} (hk32 : ∀ (h : mh_H) (l0 : Nat) (l2 : Int32) (l3 : Int32), k32 h l0 l2 l3 = some z → mh_go P d mX12_findFar 32 [some (.ref l0), none, some (.int l2), some (.int l3), none, none, none, none, none] [] h none z) : ∀ (F : Nat) (h : mh_H) (l0 : Nat) (l2 : Int32) (l3 : Int32) (l4 : Int32), D_X12_findFar_41 N k32 F h l0 l2 l3 l4 = some z → mh_go P d mX12_findFar 41 [some (.ref l0), none, some (.int l2), some (.int l3), some (.int l4), none, none, none, none] [] h none z := by
  intro F
  induction F with
  | zero => intro h l0 l2 l3 l4 hq; rw [D_X12_findFar_41] at hq; cases hq
  | succ F ih =>
    intro h l0 l2 l3 l4 hq
    rw [D_X12_findFar_41] at hq
    refine st_iload (pc := 41) dX12_findFar_41 rfl ?_
    refine st_aload_n (pc := 43) dX12_findFar_43 rfl ?_
    refine bd_getr (pc := 44) hq dX12_findFar_44 fl_12_9_12 rfl (fun v1 hq => ?_)
    refine st_iconst (pc := 47) (v := (2 : Int32)) dX12_findFar_47 rfl ?_
    refine bd_iald (pc := 48) hq dX12_findFar_48 (fun v2 hq => ?_)
    refine bd_icmp_ge (pc := 49) (tgt := 176) hq dX12_findFar_49 (by decide) (fun _ hq => ?_) (fun _ hq => ?_)
    ·
      refine st_goto (pc := 176) (tgt := 32) dX12_findFar_176 (by decide) ?_
      refine st_lesS (lv' := [some (.ref l0), none, some (.int l2), some (.int l3), none, none, none, none, none]) ⟨Or.inr rfl, Or.inr rfl, Or.inr rfl, Or.inr rfl, Or.inl rfl, Or.inr rfl, Or.inr rfl, Or.inr rfl, Or.inr rfl, trivial⟩ ?_
      exact hk32 _ _ _ _ hq
    ·
      refine st_aload_n (pc := 52) dX12_findFar_52 rfl ?_
      refine bd_getr (pc := 53) hq dX12_findFar_53 fl_12_9_12 rfl (fun v3 hq => ?_)
      refine st_iload (pc := 56) dX12_findFar_56 rfl ?_
      obtain ⟨q4, e4, hq⟩ := mh_ob hq
      refine st_invS (pc := 58) (Y := mX12_way) (vs := [.int l4]) (rest := [.ref v3]) (st2 := [.int q4.1, .ref v3]) dX12_findFar_58 okX12_way wd_1309 wd_1310 pdX12_way rfl rfl rfl rfl (Nat.le_trans (by decide) hd) (Nat.le_of_ble_eq_true rfl) (T_X12_way (Nat.le_refl _) e4) rfl ?_
      refine bd_iald (pc := 61) hq dX12_findFar_61 (fun v5 hq => ?_)
      refine st_istore (pc := 62) (lv' := [some (.ref l0), none, some (.int l2), some (.int l3), some (.int l4), some (.int v5), none, none, none]) dX12_findFar_62 rfl (by decide) rfl ?_
      refine st_aload_n (pc := 64) dX12_findFar_64 rfl ?_
      refine bd_getr (pc := 65) hq dX12_findFar_65 fl_12_9_12 rfl (fun v6 hq => ?_)
      refine st_iload (pc := 68) dX12_findFar_68 rfl ?_
      obtain ⟨q7, e7, hq⟩ := mh_ob hq
      refine st_invS (pc := 70) (Y := mX12_way) (vs := [.int l4]) (rest := [.ref v6]) (st2 := [.int q7.1, .ref v6]) dX12_findFar_70 okX12_way wd_1309 wd_1310 pdX12_way rfl rfl rfl rfl (Nat.le_trans (by decide) hd) (Nat.le_of_ble_eq_true rfl) (T_X12_way (Nat.le_refl _) e7) rfl ?_
      refine st_iconst (pc := 73) (v := (1 : Int32)) dX12_findFar_73 rfl ?_
      refine st_iadd (pc := 74) dX12_findFar_74 ?_
      refine bd_iald (pc := 75) hq dX12_findFar_75 (fun v8 hq => ?_)
      refine st_istore (pc := 76) (lv' := [some (.ref l0), none, some (.int l2), some (.int l3), some (.int l4), some (.int v5), some (.int v8), none, none]) dX12_findFar_76 rfl (by decide) rfl ?_
      refine st_aload_n (pc := 78) dX12_findFar_78 rfl ?_
      refine bd_getr (pc := 79) hq dX12_findFar_79 fl_12_9_12 rfl (fun v9 hq => ?_)
      refine st_iload (pc := 82) dX12_findFar_82 rfl ?_
      obtain ⟨q10, e10, hq⟩ := mh_ob hq
      refine st_invS (pc := 84) (Y := mX12_way) (vs := [.int l4]) (rest := [.ref v9]) (st2 := [.int q10.1, .ref v9]) dX12_findFar_84 okX12_way wd_1309 wd_1310 pdX12_way rfl rfl rfl rfl (Nat.le_trans (by decide) hd) (Nat.le_of_ble_eq_true rfl) (T_X12_way (Nat.le_refl _) e10) rfl ?_
      refine st_iconst (pc := 87) (v := (2 : Int32)) dX12_findFar_87 rfl ?_
      refine st_iadd (pc := 88) dX12_findFar_88 ?_
      refine bd_iald (pc := 89) hq dX12_findFar_89 (fun v11 hq => ?_)
      refine st_istore (pc := 90) (lv' := [some (.ref l0), none, some (.int l2), some (.int l3), some (.int l4), some (.int v5), some (.int v8), some (.int v11), none]) dX12_findFar_90 rfl (by decide) rfl ?_
      refine st_iload (pc := 92) dX12_findFar_92 rfl ?_
      refine st_iconst (pc := 94) (v := (5 : Int32)) dX12_findFar_94 rfl ?_
      refine bd_icmp_eq (pc := 95) (tgt := 170) hq dX12_findFar_95 (by decide) (fun _ hq => ?_) (fun _ hq => ?_)
      ·
        refine st_lesS (lv' := [some (.ref l0), none, some (.int l2), some (.int l3), some (.int l4), none, none, none, none]) ⟨Or.inr rfl, Or.inr rfl, Or.inr rfl, Or.inr rfl, Or.inr rfl, Or.inl rfl, Or.inl rfl, Or.inl rfl, Or.inr rfl, trivial⟩ ?_
        exact T_X12_findFar_170 hd hk32 ih hq
      ·
        refine st_iload (pc := 98) dX12_findFar_98 rfl ?_
        refine st_iconst (pc := 100) (v := (3 : Int32)) dX12_findFar_100 rfl ?_
        refine bd_icmp_ne (pc := 101) (tgt := 108) hq dX12_findFar_101 (by decide) (fun _ hq => ?_) (fun _ hq => ?_)
        ·
          refine st_iload_n (pc := 104) dX12_findFar_104 rfl ?_
          refine bd_if_eq (pc := 105) (tgt := 170) hq dX12_findFar_105 (by decide) (fun _ hq => ?_) (fun _ hq => ?_)
          ·
            refine st_lesS (lv' := [some (.ref l0), none, some (.int l2), some (.int l3), some (.int l4), none, none, none, none]) ⟨Or.inr rfl, Or.inr rfl, Or.inr rfl, Or.inr rfl, Or.inr rfl, Or.inl rfl, Or.inl rfl, Or.inl rfl, Or.inr rfl, trivial⟩ ?_
            exact T_X12_findFar_170 hd hk32 ih hq
          ·
            refine st_lesS (lv' := [some (.ref l0), none, some (.int l2), some (.int l3), some (.int l4), none, some (.int v8), some (.int v11), none]) ⟨Or.inr rfl, Or.inr rfl, Or.inr rfl, Or.inr rfl, Or.inr rfl, Or.inl rfl, Or.inr rfl, Or.inr rfl, Or.inr rfl, trivial⟩ ?_
            exact T_X12_findFar_108 hd hk32 ih hq
        ·
          refine st_lesS (lv' := [some (.ref l0), none, some (.int l2), some (.int l3), some (.int l4), none, some (.int v8), some (.int v11), none]) ⟨Or.inr rfl, Or.inr rfl, Or.inr rfl, Or.inr rfl, Or.inr rfl, Or.inl rfl, Or.inr rfl, Or.inr rfl, Or.inr rfl, trivial⟩ ?_
          exact T_X12_findFar_108 hd hk32 ih hq
def D_X12_findFar_32 (N : Nat) : Nat → mh_H → Nat → Int32 → Int32 → Option mh_H
  | 0, _, _, _, _ => none
  | F + 1, h, l0, l2, l3 =>
    if l3 = 0 then (some h)
    else (D_X12_findFar_41 N (D_X12_findFar_32 N F) N h l0 l2 (0 : Int32) (0 : Int32))
set_option maxHeartbeats 4000000 in
set_option maxRecDepth 100000 in
theorem T_X12_findFar_32 {P : mh_E → Prop} {N d : Nat} (hd : 4 ≤ d) {z : mh_H} : ∀ (F : Nat) (h : mh_H) (l0 : Nat) (l2 : Int32) (l3 : Int32), D_X12_findFar_32 N F h l0 l2 l3 = some z → mh_go P d mX12_findFar 32 [some (.ref l0), none, some (.int l2), some (.int l3), none, none, none, none, none] [] h none z := by
  intro F
  induction F with
  | zero => intro h l0 l2 l3 hq; rw [D_X12_findFar_32] at hq; cases hq
  | succ F ih =>
    intro h l0 l2 l3 hq
    rw [D_X12_findFar_32] at hq
    refine st_iload_n (pc := 32) dX12_findFar_32 rfl ?_
    refine bd_if_eq (pc := 33) (tgt := 179) hq dX12_findFar_33 (by decide) (fun _ hq => ?_) (fun _ hq => ?_)
    ·
      exact bd_vret (pc := 179) hq dX12_findFar_179 rfl
    ·
      refine st_iconst (pc := 36) (v := (0 : Int32)) dX12_findFar_36 rfl ?_
      refine st_istore_n (pc := 37) (lv' := [some (.ref l0), none, some (.int l2), some (.int (0 : Int32)), none, none, none, none, none]) dX12_findFar_37 rfl (by decide) rfl ?_
      refine st_iconst (pc := 38) (v := (0 : Int32)) dX12_findFar_38 rfl ?_
      refine st_istore (pc := 39) (lv' := [some (.ref l0), none, some (.int l2), some (.int (0 : Int32)), some (.int (0 : Int32)), none, none, none, none]) dX12_findFar_39 rfl (by decide) rfl ?_
      exact T_X12_findFar_41 hd ih N _ _ _ _ _ hq
def D_X12_findFar_2 (N : Nat) : Nat → mh_H → Nat → Int32 → Int32 → Int32 → Option mh_H
  | 0, _, _, _, _, _ => none
  | F + 1, h, l0, l1, l2, l3 =>
    if (16 : Int32) ≤ l3 then (D_X12_findFar_32 N N h l0 l2 (1 : Int32))
    else ((gR h 12 l0 5).bind fun v1 =>
    if l3 = l1 then (D_X12_findFar_23 N (D_X12_findFar_2 N F) h l0 l1 l2 l3 v1 l3 (0 : Int32))
    else (D_X12_findFar_23 N (D_X12_findFar_2 N F) h l0 l1 l2 l3 v1 l3 (-1 : Int32)))
set_option maxHeartbeats 4000000 in
set_option maxRecDepth 100000 in
theorem T_X12_findFar_2 {P : mh_E → Prop} {N d : Nat} (hd : 4 ≤ d) {z : mh_H} : ∀ (F : Nat) (h : mh_H) (l0 : Nat) (l1 : Int32) (l2 : Int32) (l3 : Int32), D_X12_findFar_2 N F h l0 l1 l2 l3 = some z → mh_go P d mX12_findFar 2 [some (.ref l0), some (.int l1), some (.int l2), some (.int l3), none, none, none, none, none] [] h none z := by
  intro F
  induction F with
  | zero => intro h l0 l1 l2 l3 hq; rw [D_X12_findFar_2] at hq; cases hq
  | succ F ih =>
    intro h l0 l1 l2 l3 hq
    rw [D_X12_findFar_2] at hq
    refine st_iload_n (pc := 2) dX12_findFar_2 rfl ?_
    refine st_bipush (pc := 3) (v := (16 : Int32)) dX12_findFar_3 (by decide) ?_
    refine bd_icmp_ge (pc := 5) (tgt := 30) hq dX12_findFar_5 (by decide) (fun _ hq => ?_) (fun _ hq => ?_)
    ·
      refine st_iconst (pc := 30) (v := (1 : Int32)) dX12_findFar_30 rfl ?_
      refine st_istore_n (pc := 31) (lv' := [some (.ref l0), some (.int l1), some (.int l2), some (.int (1 : Int32)), none, none, none, none, none]) dX12_findFar_31 rfl (by decide) rfl ?_
      refine st_lesS (lv' := [some (.ref l0), none, some (.int l2), some (.int (1 : Int32)), none, none, none, none, none]) ⟨Or.inr rfl, Or.inl rfl, Or.inr rfl, Or.inr rfl, Or.inr rfl, Or.inr rfl, Or.inr rfl, Or.inr rfl, Or.inr rfl, trivial⟩ ?_
      exact T_X12_findFar_32 hd N _ _ _ _ hq
    ·
      refine st_aload_n (pc := 8) dX12_findFar_8 rfl ?_
      refine bd_getr (pc := 9) hq dX12_findFar_9 fl_12_22_12 rfl (fun v1 hq => ?_)
      refine st_iload_n (pc := 12) dX12_findFar_12 rfl ?_
      refine st_iload_n (pc := 13) dX12_findFar_13 rfl ?_
      refine st_iload_n (pc := 14) dX12_findFar_14 rfl ?_
      refine bd_icmp_ne (pc := 15) (tgt := 22) hq dX12_findFar_15 (by decide) (fun _ hq => ?_) (fun _ hq => ?_)
      ·
        refine st_iconst (pc := 18) (v := (0 : Int32)) dX12_findFar_18 rfl ?_
        refine st_goto (pc := 19) (tgt := 23) dX12_findFar_19 (by decide) ?_
        exact T_X12_findFar_23 hd ih hq
      ·
        refine st_iconst (pc := 22) (v := (-1 : Int32)) dX12_findFar_22 rfl ?_
        exact T_X12_findFar_23 hd ih hq
def D_X12_findFar (N : Nat) (h : mh_H) (l0 : Nat) (l1 : Int32) (l2 : Int32) : Option mh_H :=
  D_X12_findFar_2 N N h l0 l1 l2 (0 : Int32)
set_option maxHeartbeats 4000000 in
set_option maxRecDepth 100000 in
theorem T_X12_findFar {P : mh_E → Prop} {N d : Nat} (hd : 4 ≤ d) {z : mh_H} {h : mh_H} {l0 : Nat} {l1 : Int32} {l2 : Int32} (hq : D_X12_findFar N h l0 l1 l2 = some z) : mh_go P d mX12_findFar 0 [some (.ref l0), some (.int l1), some (.int l2), none, none, none, none, none, none] [] h none z := by
  unfold D_X12_findFar at hq
  refine st_iconst (pc := 0) (v := (0 : Int32)) dX12_findFar_0 rfl ?_
  refine st_istore_n (pc := 1) (lv' := [some (.ref l0), some (.int l1), some (.int l2), some (.int (0 : Int32)), none, none, none, none, none]) dX12_findFar_1 rfl (by decide) rfl ?_
  exact T_X12_findFar_2 hd N _ _ _ _ _ hq
-- HoleWaterModel.hangs(IZ)I
theorem dX12_hangs_69 : decode cX12_hangs 69 = .ok (.iinc 4 1, 3) := by decide +kernel
theorem dX12_hangs_72 : decode cX12_hangs 72 = .ok (.goto (-53), 3) := by decide +kernel
theorem dX12_hangs_67 : decode cX12_hangs 67 = .ok (.ior, 1) := by decide +kernel
theorem dX12_hangs_68 : decode cX12_hangs 68 = .ok (.istore_n 3, 1) := by decide +kernel
theorem dX12_hangs_19 : decode cX12_hangs 19 = .ok (.iload 4, 2) := by decide +kernel
theorem dX12_hangs_21 : decode cX12_hangs 21 = .ok (.aload_n 0, 1) := by decide +kernel
theorem dX12_hangs_22 : decode cX12_hangs 22 = .ok (.getfield 9, 3) := by decide +kernel
theorem dX12_hangs_25 : decode cX12_hangs 25 = .ok (.iconst 1, 1) := by decide +kernel
theorem dX12_hangs_26 : decode cX12_hangs 26 = .ok (.iaload, 1) := by decide +kernel
theorem dX12_hangs_27 : decode cX12_hangs 27 = .ok (.if_icmp .ge 48, 3) := by decide +kernel
theorem dX12_hangs_75 : decode cX12_hangs 75 = .ok (.iload_n 3, 1) := by decide +kernel
theorem dX12_hangs_76 : decode cX12_hangs 76 = .ok (.ireturn, 1) := by decide +kernel
theorem dX12_hangs_30 : decode cX12_hangs 30 = .ok (.aload_n 0, 1) := by decide +kernel
theorem dX12_hangs_31 : decode cX12_hangs 31 = .ok (.iload 4, 2) := by decide +kernel
theorem dX12_hangs_33 : decode cX12_hangs 33 = .ok (.invokevirtual 96, 3) := by decide +kernel
theorem dX12_hangs_36 : decode cX12_hangs 36 = .ok (.ifCond .ne 6, 3) := by decide +kernel
theorem dX12_hangs_39 : decode cX12_hangs 39 = .ok (.goto 30, 3) := by decide +kernel
theorem dX12_hangs_42 : decode cX12_hangs 42 = .ok (.aload_n 0, 1) := by decide +kernel
theorem dX12_hangs_43 : decode cX12_hangs 43 = .ok (.iload 4, 2) := by decide +kernel
theorem dX12_hangs_45 : decode cX12_hangs 45 = .ok (.iload_n 2, 1) := by decide +kernel
theorem dX12_hangs_46 : decode cX12_hangs 46 = .ok (.invokevirtual 119, 3) := by decide +kernel
theorem dX12_hangs_49 : decode cX12_hangs 49 = .ok (.iload_n 3, 1) := by decide +kernel
theorem dX12_hangs_50 : decode cX12_hangs 50 = .ok (.aload_n 0, 1) := by decide +kernel
theorem dX12_hangs_51 : decode cX12_hangs 51 = .ok (.getfield 22, 3) := by decide +kernel
theorem dX12_hangs_54 : decode cX12_hangs 54 = .ok (.iload_n 1, 1) := by decide +kernel
theorem dX12_hangs_55 : decode cX12_hangs 55 = .ok (.iaload, 1) := by decide +kernel
theorem dX12_hangs_56 : decode cX12_hangs 56 = .ok (.ifCond .lt 10, 3) := by decide +kernel
theorem dX12_hangs_66 : decode cX12_hangs 66 = .ok (.iconst 0, 1) := by decide +kernel
theorem dX12_hangs_59 : decode cX12_hangs 59 = .ok (.iconst 1, 1) := by decide +kernel
theorem dX12_hangs_60 : decode cX12_hangs 60 = .ok (.iload 4, 2) := by decide +kernel
theorem dX12_hangs_62 : decode cX12_hangs 62 = .ok (.ishl, 1) := by decide +kernel
theorem dX12_hangs_63 : decode cX12_hangs 63 = .ok (.goto 4, 3) := by decide +kernel
theorem dX12_hangs_0 : decode cX12_hangs 0 = .ok (.aload_n 0, 1) := by decide +kernel
theorem dX12_hangs_1 : decode cX12_hangs 1 = .ok (.iload_n 1, 1) := by decide +kernel
theorem dX12_hangs_2 : decode cX12_hangs 2 = .ok (.invokevirtual 83, 3) := by decide +kernel
theorem dX12_hangs_5 : decode cX12_hangs 5 = .ok (.ifCond .ne 9, 3) := by decide +kernel
theorem dX12_hangs_8 : decode cX12_hangs 8 = .ok (.aload_n 0, 1) := by decide +kernel
theorem dX12_hangs_9 : decode cX12_hangs 9 = .ok (.iconst 1, 1) := by decide +kernel
theorem dX12_hangs_10 : decode cX12_hangs 10 = .ok (.invokevirtual 80, 3) := by decide +kernel
theorem dX12_hangs_13 : decode cX12_hangs 13 = .ok (.ireturn, 1) := by decide +kernel
theorem dX12_hangs_14 : decode cX12_hangs 14 = .ok (.iconst 0, 1) := by decide +kernel
theorem dX12_hangs_15 : decode cX12_hangs 15 = .ok (.istore_n 3, 1) := by decide +kernel
theorem dX12_hangs_16 : decode cX12_hangs 16 = .ok (.iconst 0, 1) := by decide +kernel
theorem dX12_hangs_17 : decode cX12_hangs 17 = .ok (.istore 4, 2) := by decide +kernel
def D_X12_hangs_69 (N : Nat) (k19 : mh_H → Nat → Int32 → Int32 → Int32 → Int32 → Option (Int32 × mh_H)) (h : mh_H) (l0 : Nat) (l1 : Int32) (l2 : Int32) (l3 : Int32) (l4 : Int32) : Option (Int32 × mh_H) :=
  k19 h l0 l1 l2 l3 (l4 + Int32.ofInt (1))
set_option maxHeartbeats 4000000 in
set_option maxRecDepth 100000 in
theorem T_X12_hangs_69 {P : mh_E → Prop} {N d : Nat} (hd : 5 ≤ d) {z : (Int32 × mh_H)} {k19 : mh_H → Nat → Int32 → Int32 → Int32 → Int32 → Option (Int32 × mh_H)} (hk19 : ∀ (h : mh_H) (l0 : Nat) (l1 : Int32) (l2 : Int32) (l3 : Int32) (l4 : Int32), k19 h l0 l1 l2 l3 l4 = some z → mh_go P d mX12_hangs 19 [some (.ref l0), some (.int l1), some (.int l2), some (.int l3), some (.int l4)] [] h (some (.int z.1)) z.2) {h : mh_H} {l0 : Nat} {l1 : Int32} {l2 : Int32} {l3 : Int32} {l4 : Int32} (hq : D_X12_hangs_69 N k19 h l0 l1 l2 l3 l4 = some z) : mh_go P d mX12_hangs 69 [some (.ref l0), some (.int l1), some (.int l2), some (.int l3), some (.int l4)] [] h (some (.int z.1)) z.2 := by
  unfold D_X12_hangs_69 at hq
  refine st_iinc (pc := 69) (lv' := [some (.ref l0), some (.int l1), some (.int l2), some (.int l3), some (.int (l4 + Int32.ofInt (1)))]) dX12_hangs_69 rfl rfl (by decide) rfl ?_
  refine st_goto (pc := 72) (tgt := 19) dX12_hangs_72 (by decide) ?_
  exact hk19 _ _ _ _ _ _ hq
def D_X12_hangs_67 (N : Nat) (k19 : mh_H → Nat → Int32 → Int32 → Int32 → Int32 → Option (Int32 × mh_H)) (h : mh_H) (l0 : Nat) (l1 : Int32) (l2 : Int32) (l4 : Int32) (s0 : Int32) (s1 : Int32) : Option (Int32 × mh_H) :=
  D_X12_hangs_69 N k19 h l0 l1 l2 (s0 ||| s1) l4
set_option maxHeartbeats 4000000 in
set_option maxRecDepth 100000 in
theorem T_X12_hangs_67 {P : mh_E → Prop} {N d : Nat} (hd : 5 ≤ d) {z : (Int32 × mh_H)} {k19 : mh_H → Nat → Int32 → Int32 → Int32 → Int32 → Option (Int32 × mh_H)} (hk19 : ∀ (h : mh_H) (l0 : Nat) (l1 : Int32) (l2 : Int32) (l3 : Int32) (l4 : Int32), k19 h l0 l1 l2 l3 l4 = some z → mh_go P d mX12_hangs 19 [some (.ref l0), some (.int l1), some (.int l2), some (.int l3), some (.int l4)] [] h (some (.int z.1)) z.2) {h : mh_H} {l0 : Nat} {l1 : Int32} {l2 : Int32} {l4 : Int32} {s0 : Int32} {s1 : Int32} (hq : D_X12_hangs_67 N k19 h l0 l1 l2 l4 s0 s1 = some z) : mh_go P d mX12_hangs 67 [some (.ref l0), some (.int l1), some (.int l2), none, some (.int l4)] [.int s1, .int s0] h (some (.int z.1)) z.2 := by
  unfold D_X12_hangs_67 at hq
  refine st_ior (pc := 67) dX12_hangs_67 ?_
  refine st_istore_n (pc := 68) (lv' := [some (.ref l0), some (.int l1), some (.int l2), some (.int (s0 ||| s1)), some (.int l4)]) dX12_hangs_68 rfl (by decide) rfl ?_
  exact T_X12_hangs_69 hd hk19 hq
def D_X12_hangs_19 (N : Nat) : Nat → mh_H → Nat → Int32 → Int32 → Int32 → Int32 → Option (Int32 × mh_H)
  | 0, _, _, _, _, _, _ => none
  | F + 1, h, l0, l1, l2, l3, l4 =>
    (gR h 12 l0 0).bind fun v1 =>
    (aI h v1 (1 : Int32)).bind fun v2 =>
    if v2 ≤ l4 then (some (l3, h))
    else (kO h 12 l0 <|
    (D_X12_isHole N h l0 l4).bind fun q3 =>
    if q3.1 = 0 then (D_X12_hangs_69 N (D_X12_hangs_19 N F) q3.2 l0 l1 l2 l3 l4)
    else (kO q3.2 12 l0 <|
    (D_X12_findFar N q3.2 l0 l4 l2).bind fun q4 =>
    (gR q4 12 l0 5).bind fun v5 =>
    (aI q4 v5 l1).bind fun v6 =>
    if v6 < 0 then (D_X12_hangs_67 N (D_X12_hangs_19 N F) q4 l0 l1 l2 l4 l3 (0 : Int32))
    else (D_X12_hangs_67 N (D_X12_hangs_19 N F) q4 l0 l1 l2 l4 l3 ((1 : Int32) <<< (l4 &&& 31)))))
set_option maxHeartbeats 4000000 in
set_option maxRecDepth 100000 in
theorem T_X12_hangs_19 {P : mh_E → Prop} {N d : Nat} (hd : 5 ≤ d) {z : (Int32 × mh_H)} : ∀ (F : Nat) (h : mh_H) (l0 : Nat) (l1 : Int32) (l2 : Int32) (l3 : Int32) (l4 : Int32), D_X12_hangs_19 N F h l0 l1 l2 l3 l4 = some z → mh_go P d mX12_hangs 19 [some (.ref l0), some (.int l1), some (.int l2), some (.int l3), some (.int l4)] [] h (some (.int z.1)) z.2 := by
  intro F
  induction F with
  | zero => intro h l0 l1 l2 l3 l4 hq; rw [D_X12_hangs_19] at hq; cases hq
  | succ F ih =>
    intro h l0 l1 l2 l3 l4 hq
    rw [D_X12_hangs_19] at hq
    refine st_iload (pc := 19) dX12_hangs_19 rfl ?_
    refine st_aload_n (pc := 21) dX12_hangs_21 rfl ?_
    refine bd_getr (pc := 22) hq dX12_hangs_22 fl_12_9_12 rfl (fun v1 hq => ?_)
    refine st_iconst (pc := 25) (v := (1 : Int32)) dX12_hangs_25 rfl ?_
    refine bd_iald (pc := 26) hq dX12_hangs_26 (fun v2 hq => ?_)
    refine bd_icmp_ge (pc := 27) (tgt := 75) hq dX12_hangs_27 (by decide) (fun _ hq => ?_) (fun _ hq => ?_)
    ·
      refine st_iload_n (pc := 75) dX12_hangs_75 rfl ?_
      exact bd_iret (pc := 76) hq dX12_hangs_76 rfl
    ·
      refine st_aload_n (pc := 30) dX12_hangs_30 rfl ?_
      refine st_iload (pc := 31) dX12_hangs_31 rfl ?_
      obtain ⟨⟨hbq3, hkq3⟩, hq⟩ := mh_oi hq
      obtain ⟨q3, e3, hq⟩ := mh_ob hq
      refine st_invV (pc := 33) (ci := 12) (vs := [.int l4]) (rest := []) (st2 := [.int q3.1]) dX12_hangs_33 okX12_isHole (by decide) hkq3 hbq3 wd_1305 wd_1307 wp_41 pdX12_isHole rfl rfl rfl rfl (Nat.le_trans (by decide) hd) (Nat.le_of_ble_eq_true rfl) (T_X12_isHole (Nat.le_refl _) e3) rfl ?_
      refine bd_if_ne (pc := 36) (tgt := 42) hq dX12_hangs_36 (by decide) (fun _ hq => ?_) (fun _ hq => ?_)
      ·
        refine st_goto (pc := 39) (tgt := 69) dX12_hangs_39 (by decide) ?_
        exact T_X12_hangs_69 hd ih hq
      ·
        refine st_aload_n (pc := 42) dX12_hangs_42 rfl ?_
        refine st_iload (pc := 43) dX12_hangs_43 rfl ?_
        refine st_iload_n (pc := 45) dX12_hangs_45 rfl ?_
        obtain ⟨⟨hbq4, hkq4⟩, hq⟩ := mh_oi hq
        obtain ⟨q4, e4, hq⟩ := mh_ob hq
        refine st_invV (pc := 46) (ci := 12) (vs := [.int l4, .int l2]) (rest := []) (st2 := []) dX12_hangs_46 okX12_findFar (by decide) hkq4 hbq4 wd_1342 wd_1344 wp_45 pdX12_findFar rfl rfl rfl rfl (Nat.le_trans (by decide) hd) (Nat.le_of_ble_eq_true rfl) (T_X12_findFar (Nat.le_refl _) e4) rfl ?_
        refine st_iload_n (pc := 49) dX12_hangs_49 rfl ?_
        refine st_aload_n (pc := 50) dX12_hangs_50 rfl ?_
        refine bd_getr (pc := 51) hq dX12_hangs_51 fl_12_22_12 rfl (fun v5 hq => ?_)
        refine st_iload_n (pc := 54) dX12_hangs_54 rfl ?_
        refine bd_iald (pc := 55) hq dX12_hangs_55 (fun v6 hq => ?_)
        refine bd_if_lt (pc := 56) (tgt := 66) hq dX12_hangs_56 (by decide) (fun _ hq => ?_) (fun _ hq => ?_)
        ·
          refine st_iconst (pc := 66) (v := (0 : Int32)) dX12_hangs_66 rfl ?_
          refine st_lesS (lv' := [some (.ref l0), some (.int l1), some (.int l2), none, some (.int l4)]) ⟨Or.inr rfl, Or.inr rfl, Or.inr rfl, Or.inl rfl, Or.inr rfl, trivial⟩ ?_
          exact T_X12_hangs_67 hd ih hq
        ·
          refine st_iconst (pc := 59) (v := (1 : Int32)) dX12_hangs_59 rfl ?_
          refine st_iload (pc := 60) dX12_hangs_60 rfl ?_
          refine st_ishl (pc := 62) dX12_hangs_62 ?_
          refine st_goto (pc := 63) (tgt := 67) dX12_hangs_63 (by decide) ?_
          refine st_lesS (lv' := [some (.ref l0), some (.int l1), some (.int l2), none, some (.int l4)]) ⟨Or.inr rfl, Or.inr rfl, Or.inr rfl, Or.inl rfl, Or.inr rfl, trivial⟩ ?_
          exact T_X12_hangs_67 hd ih hq
def D_X12_hangs (N : Nat) (h : mh_H) (l0 : Nat) (l1 : Int32) (l2 : Int32) : Option (Int32 × mh_H) :=
  kO h 12 l0 <|
  (D_X12_isJoint N h l0 l1).bind fun q1 =>
  if q1.1 = 0 then (kO q1.2 12 l0 <|
  (D_X12_error N q1.2 l0 (1 : Int32)).bind fun q2 =>
  some (q2.1, q2.2))
  else (D_X12_hangs_19 N N q1.2 l0 l1 l2 (0 : Int32) (0 : Int32))
set_option maxHeartbeats 4000000 in
set_option maxRecDepth 100000 in
theorem T_X12_hangs {P : mh_E → Prop} {N d : Nat} (hd : 5 ≤ d) {z : (Int32 × mh_H)} {h : mh_H} {l0 : Nat} {l1 : Int32} {l2 : Int32} (hq : D_X12_hangs N h l0 l1 l2 = some z) : mh_go P d mX12_hangs 0 [some (.ref l0), some (.int l1), some (.int l2), none, none] [] h (some (.int z.1)) z.2 := by
  unfold D_X12_hangs at hq
  refine st_aload_n (pc := 0) dX12_hangs_0 rfl ?_
  refine st_iload_n (pc := 1) dX12_hangs_1 rfl ?_
  obtain ⟨⟨hbq1, hkq1⟩, hq⟩ := mh_oi hq
  obtain ⟨q1, e1, hq⟩ := mh_ob hq
  refine st_invV (pc := 2) (ci := 12) (vs := [.int l1]) (rest := []) (st2 := [.int q1.1]) dX12_hangs_2 okX12_isJoint (by decide) hkq1 hbq1 wd_1286 wd_1288 wp_38 pdX12_isJoint rfl rfl rfl rfl (Nat.le_trans (by decide) hd) (Nat.le_of_ble_eq_true rfl) (T_X12_isJoint (Nat.le_refl _) e1) rfl ?_
  refine bd_if_ne (pc := 5) (tgt := 14) hq dX12_hangs_5 (by decide) (fun _ hq => ?_) (fun _ hq => ?_)
  ·
    refine st_aload_n (pc := 8) dX12_hangs_8 rfl ?_
    refine st_iconst (pc := 9) (v := (1 : Int32)) dX12_hangs_9 rfl ?_
    obtain ⟨⟨hbq2, hkq2⟩, hq⟩ := mh_oi hq
    obtain ⟨q2, e2, hq⟩ := mh_ob hq
    refine st_invV (pc := 10) (ci := 12) (vs := [.int (1 : Int32)]) (rest := []) (st2 := [.int q2.1]) dX12_hangs_10 okX12_error (by decide) hkq2 hbq2 wd_1274 wd_1276 wp_37 pdX12_error rfl rfl rfl rfl (Nat.le_trans (by decide) hd) (Nat.le_of_ble_eq_true rfl) (T_X12_error (Nat.le_refl _) e2) rfl ?_
    exact bd_iret (pc := 13) hq dX12_hangs_13 rfl
  ·
    refine st_iconst (pc := 14) (v := (0 : Int32)) dX12_hangs_14 rfl ?_
    refine st_istore_n (pc := 15) (lv' := [some (.ref l0), some (.int l1), some (.int l2), some (.int (0 : Int32)), none]) dX12_hangs_15 rfl (by decide) rfl ?_
    refine st_iconst (pc := 16) (v := (0 : Int32)) dX12_hangs_16 rfl ?_
    refine st_istore (pc := 17) (lv' := [some (.ref l0), some (.int l1), some (.int l2), some (.int (0 : Int32)), some (.int (0 : Int32))]) dX12_hangs_17 rfl (by decide) rfl ?_
    exact T_X12_hangs_19 hd N _ _ _ _ _ _ hq
-- HoleWaterModel.quick(II)I
theorem dX12_quick_16 : decode cX12_quick 16 = .ok (.aload_n 0, 1) := by decide +kernel
theorem dX12_quick_17 : decode cX12_quick 17 = .ok (.iconst 1, 1) := by decide +kernel
theorem dX12_quick_18 : decode cX12_quick 18 = .ok (.invokevirtual 80, 3) := by decide +kernel
theorem dX12_quick_21 : decode cX12_quick 21 = .ok (.ireturn, 1) := by decide +kernel
theorem dX12_quick_0 : decode cX12_quick 0 = .ok (.aload_n 0, 1) := by decide +kernel
theorem dX12_quick_1 : decode cX12_quick 1 = .ok (.iload_n 1, 1) := by decide +kernel
theorem dX12_quick_2 : decode cX12_quick 2 = .ok (.invokevirtual 83, 3) := by decide +kernel
theorem dX12_quick_5 : decode cX12_quick 5 = .ok (.ifCond .eq 11, 3) := by decide +kernel
theorem dX12_quick_8 : decode cX12_quick 8 = .ok (.aload_n 0, 1) := by decide +kernel
theorem dX12_quick_9 : decode cX12_quick 9 = .ok (.iload_n 2, 1) := by decide +kernel
theorem dX12_quick_10 : decode cX12_quick 10 = .ok (.invokevirtual 83, 3) := by decide +kernel
theorem dX12_quick_13 : decode cX12_quick 13 = .ok (.ifCond .ne 9, 3) := by decide +kernel
theorem dX12_quick_22 : decode cX12_quick 22 = .ok (.aload_n 0, 1) := by decide +kernel
theorem dX12_quick_23 : decode cX12_quick 23 = .ok (.iload_n 1, 1) := by decide +kernel
theorem dX12_quick_24 : decode cX12_quick 24 = .ok (.iconst 1, 1) := by decide +kernel
theorem dX12_quick_25 : decode cX12_quick 25 = .ok (.invokevirtual 119, 3) := by decide +kernel
theorem dX12_quick_28 : decode cX12_quick 28 = .ok (.aload_n 0, 1) := by decide +kernel
theorem dX12_quick_29 : decode cX12_quick 29 = .ok (.getfield 22, 3) := by decide +kernel
theorem dX12_quick_32 : decode cX12_quick 32 = .ok (.iload_n 2, 1) := by decide +kernel
theorem dX12_quick_33 : decode cX12_quick 33 = .ok (.iaload, 1) := by decide +kernel
theorem dX12_quick_34 : decode cX12_quick 34 = .ok (.ifCond .lt 12, 3) := by decide +kernel
theorem dX12_quick_46 : decode cX12_quick 46 = .ok (.aload_n 0, 1) := by decide +kernel
theorem dX12_quick_47 : decode cX12_quick 47 = .ok (.iconst 2, 1) := by decide +kernel
theorem dX12_quick_48 : decode cX12_quick 48 = .ok (.invokevirtual 80, 3) := by decide +kernel
theorem dX12_quick_51 : decode cX12_quick 51 = .ok (.ireturn, 1) := by decide +kernel
theorem dX12_quick_37 : decode cX12_quick 37 = .ok (.aload_n 0, 1) := by decide +kernel
theorem dX12_quick_38 : decode cX12_quick 38 = .ok (.getfield 22, 3) := by decide +kernel
theorem dX12_quick_41 : decode cX12_quick 41 = .ok (.iload_n 2, 1) := by decide +kernel
theorem dX12_quick_42 : decode cX12_quick 42 = .ok (.iaload, 1) := by decide +kernel
theorem dX12_quick_43 : decode cX12_quick 43 = .ok (.goto 8, 3) := by decide +kernel
def D_X12_quick_16 (N : Nat) (h : mh_H) (l0 : Nat) : Option (Int32 × mh_H) :=
  kO h 12 l0 <|
  (D_X12_error N h l0 (1 : Int32)).bind fun q1 =>
  some (q1.1, q1.2)
set_option maxHeartbeats 4000000 in
set_option maxRecDepth 100000 in
theorem T_X12_quick_16 {P : mh_E → Prop} {N d : Nat} (hd : 5 ≤ d) {z : (Int32 × mh_H)} {h : mh_H} {l0 : Nat} (hq : D_X12_quick_16 N h l0 = some z) : mh_go P d mX12_quick 16 [some (.ref l0), none, none] [] h (some (.int z.1)) z.2 := by
  unfold D_X12_quick_16 at hq
  refine st_aload_n (pc := 16) dX12_quick_16 rfl ?_
  refine st_iconst (pc := 17) (v := (1 : Int32)) dX12_quick_17 rfl ?_
  obtain ⟨⟨hbq1, hkq1⟩, hq⟩ := mh_oi hq
  obtain ⟨q1, e1, hq⟩ := mh_ob hq
  refine st_invV (pc := 18) (ci := 12) (vs := [.int (1 : Int32)]) (rest := []) (st2 := [.int q1.1]) dX12_quick_18 okX12_error (by decide) hkq1 hbq1 wd_1274 wd_1276 wp_37 pdX12_error rfl rfl rfl rfl (Nat.le_trans (by decide) hd) (Nat.le_of_ble_eq_true rfl) (T_X12_error (Nat.le_refl _) e1) rfl ?_
  exact bd_iret (pc := 21) hq dX12_quick_21 rfl
def D_X12_quick (N : Nat) (h : mh_H) (l0 : Nat) (l1 : Int32) (l2 : Int32) : Option (Int32 × mh_H) :=
  kO h 12 l0 <|
  (D_X12_isJoint N h l0 l1).bind fun q1 =>
  if q1.1 = 0 then (D_X12_quick_16 N q1.2 l0)
  else (kO q1.2 12 l0 <|
  (D_X12_isJoint N q1.2 l0 l2).bind fun q2 =>
  if q2.1 = 0 then (D_X12_quick_16 N q2.2 l0)
  else (kO q2.2 12 l0 <|
  (D_X12_findFar N q2.2 l0 l1 (1 : Int32)).bind fun q3 =>
  (gR q3 12 l0 5).bind fun v4 =>
  (aI q3 v4 l2).bind fun v5 =>
  if v5 < 0 then (kO q3 12 l0 <|
  (D_X12_error N q3 l0 (2 : Int32)).bind fun q6 =>
  some (q6.1, q6.2))
  else ((gR q3 12 l0 5).bind fun v6 =>
  (aI q3 v6 l2).bind fun v7 =>
  some (v7, q3))))
set_option maxHeartbeats 4000000 in
set_option maxRecDepth 100000 in
theorem T_X12_quick {P : mh_E → Prop} {N d : Nat} (hd : 5 ≤ d) {z : (Int32 × mh_H)} {h : mh_H} {l0 : Nat} {l1 : Int32} {l2 : Int32} (hq : D_X12_quick N h l0 l1 l2 = some z) : mh_go P d mX12_quick 0 [some (.ref l0), some (.int l1), some (.int l2)] [] h (some (.int z.1)) z.2 := by
  unfold D_X12_quick at hq
  refine st_aload_n (pc := 0) dX12_quick_0 rfl ?_
  refine st_iload_n (pc := 1) dX12_quick_1 rfl ?_
  obtain ⟨⟨hbq1, hkq1⟩, hq⟩ := mh_oi hq
  obtain ⟨q1, e1, hq⟩ := mh_ob hq
  refine st_invV (pc := 2) (ci := 12) (vs := [.int l1]) (rest := []) (st2 := [.int q1.1]) dX12_quick_2 okX12_isJoint (by decide) hkq1 hbq1 wd_1286 wd_1288 wp_38 pdX12_isJoint rfl rfl rfl rfl (Nat.le_trans (by decide) hd) (Nat.le_of_ble_eq_true rfl) (T_X12_isJoint (Nat.le_refl _) e1) rfl ?_
  refine bd_if_eq (pc := 5) (tgt := 16) hq dX12_quick_5 (by decide) (fun _ hq => ?_) (fun _ hq => ?_)
  ·
    refine st_lesS (lv' := [some (.ref l0), none, none]) ⟨Or.inr rfl, Or.inl rfl, Or.inl rfl, trivial⟩ ?_
    exact T_X12_quick_16 hd hq
  ·
    refine st_aload_n (pc := 8) dX12_quick_8 rfl ?_
    refine st_iload_n (pc := 9) dX12_quick_9 rfl ?_
    obtain ⟨⟨hbq2, hkq2⟩, hq⟩ := mh_oi hq
    obtain ⟨q2, e2, hq⟩ := mh_ob hq
    refine st_invV (pc := 10) (ci := 12) (vs := [.int l2]) (rest := []) (st2 := [.int q2.1]) dX12_quick_10 okX12_isJoint (by decide) hkq2 hbq2 wd_1286 wd_1288 wp_38 pdX12_isJoint rfl rfl rfl rfl (Nat.le_trans (by decide) hd) (Nat.le_of_ble_eq_true rfl) (T_X12_isJoint (Nat.le_refl _) e2) rfl ?_
    refine bd_if_ne (pc := 13) (tgt := 22) hq dX12_quick_13 (by decide) (fun _ hq => ?_) (fun _ hq => ?_)
    ·
      refine st_lesS (lv' := [some (.ref l0), none, none]) ⟨Or.inr rfl, Or.inl rfl, Or.inl rfl, trivial⟩ ?_
      exact T_X12_quick_16 hd hq
    ·
      refine st_aload_n (pc := 22) dX12_quick_22 rfl ?_
      refine st_iload_n (pc := 23) dX12_quick_23 rfl ?_
      refine st_iconst (pc := 24) (v := (1 : Int32)) dX12_quick_24 rfl ?_
      obtain ⟨⟨hbq3, hkq3⟩, hq⟩ := mh_oi hq
      obtain ⟨q3, e3, hq⟩ := mh_ob hq
      refine st_invV (pc := 25) (ci := 12) (vs := [.int l1, .int (1 : Int32)]) (rest := []) (st2 := []) dX12_quick_25 okX12_findFar (by decide) hkq3 hbq3 wd_1342 wd_1344 wp_45 pdX12_findFar rfl rfl rfl rfl (Nat.le_trans (by decide) hd) (Nat.le_of_ble_eq_true rfl) (T_X12_findFar (Nat.le_refl _) e3) rfl ?_
      refine st_aload_n (pc := 28) dX12_quick_28 rfl ?_
      refine bd_getr (pc := 29) hq dX12_quick_29 fl_12_22_12 rfl (fun v4 hq => ?_)
      refine st_iload_n (pc := 32) dX12_quick_32 rfl ?_
      refine bd_iald (pc := 33) hq dX12_quick_33 (fun v5 hq => ?_)
      refine bd_if_lt (pc := 34) (tgt := 46) hq dX12_quick_34 (by decide) (fun _ hq => ?_) (fun _ hq => ?_)
      ·
        refine st_aload_n (pc := 46) dX12_quick_46 rfl ?_
        refine st_iconst (pc := 47) (v := (2 : Int32)) dX12_quick_47 rfl ?_
        obtain ⟨⟨hbq6, hkq6⟩, hq⟩ := mh_oi hq
        obtain ⟨q6, e6, hq⟩ := mh_ob hq
        refine st_invV (pc := 48) (ci := 12) (vs := [.int (2 : Int32)]) (rest := []) (st2 := [.int q6.1]) dX12_quick_48 okX12_error (by decide) hkq6 hbq6 wd_1274 wd_1276 wp_37 pdX12_error rfl rfl rfl rfl (Nat.le_trans (by decide) hd) (Nat.le_of_ble_eq_true rfl) (T_X12_error (Nat.le_refl _) e6) rfl ?_
        exact bd_iret (pc := 51) hq dX12_quick_51 rfl
      ·
        refine st_aload_n (pc := 37) dX12_quick_37 rfl ?_
        refine bd_getr (pc := 38) hq dX12_quick_38 fl_12_22_12 rfl (fun v6 hq => ?_)
        refine st_iload_n (pc := 41) dX12_quick_41 rfl ?_
        refine bd_iald (pc := 42) hq dX12_quick_42 (fun v7 hq => ?_)
        refine st_goto (pc := 43) (tgt := 51) dX12_quick_43 (by decide) ?_
        exact bd_iret (pc := 51) hq dX12_quick_51 rfl
-- HoleWaterModel.stuffAt(II)I
theorem dX12_stuffAt_0 : decode cX12_stuffAt 0 = .ok (.bipush 16, 2) := by decide +kernel
theorem dX12_stuffAt_2 : decode cX12_stuffAt 2 = .ok (.bipush 7, 2) := by decide +kernel
theorem dX12_stuffAt_4 : decode cX12_stuffAt 4 = .ok (.iload_n 0, 1) := by decide +kernel
theorem dX12_stuffAt_5 : decode cX12_stuffAt 5 = .ok (.imul, 1) := by decide +kernel
theorem dX12_stuffAt_6 : decode cX12_stuffAt 6 = .ok (.iadd, 1) := by decide +kernel
theorem dX12_stuffAt_7 : decode cX12_stuffAt 7 = .ok (.iload_n 1, 1) := by decide +kernel
theorem dX12_stuffAt_8 : decode cX12_stuffAt 8 = .ok (.iadd, 1) := by decide +kernel
theorem dX12_stuffAt_9 : decode cX12_stuffAt 9 = .ok (.ireturn, 1) := by decide +kernel
def D_X12_stuffAt (N : Nat) (h : mh_H) (l0 : Int32) (l1 : Int32) : Option (Int32 × mh_H) :=
  some (((16 : Int32) + ((7 : Int32) * l0)) + l1, h)
set_option maxHeartbeats 4000000 in
set_option maxRecDepth 100000 in
theorem T_X12_stuffAt {P : mh_E → Prop} {N d : Nat} (hd : 1 ≤ d) {z : (Int32 × mh_H)} {h : mh_H} {l0 : Int32} {l1 : Int32} (hq : D_X12_stuffAt N h l0 l1 = some z) : mh_go P d mX12_stuffAt 0 [some (.int l0), some (.int l1)] [] h (some (.int z.1)) z.2 := by
  unfold D_X12_stuffAt at hq
  refine st_bipush (pc := 0) (v := (16 : Int32)) dX12_stuffAt_0 (by decide) ?_
  refine st_bipush (pc := 2) (v := (7 : Int32)) dX12_stuffAt_2 (by decide) ?_
  refine st_iload_n (pc := 4) dX12_stuffAt_4 rfl ?_
  refine st_imul (pc := 5) dX12_stuffAt_5 ?_
  refine st_iadd (pc := 6) dX12_stuffAt_6 ?_
  refine st_iload_n (pc := 7) dX12_stuffAt_7 rfl ?_
  refine st_iadd (pc := 8) dX12_stuffAt_8 ?_
  exact bd_iret (pc := 9) hq dX12_stuffAt_9 rfl
-- HoleWaterModel.comesOut(I)V
theorem dX12_comesOut_270 : decode cX12_comesOut 270 = .ok (.iadd, 1) := by decide +kernel
theorem dX12_comesOut_271 : decode cX12_comesOut 271 = .ok (.dup2, 1) := by decide +kernel
theorem dX12_comesOut_272 : decode cX12_comesOut 272 = .ok (.iaload, 1) := by decide +kernel
theorem dX12_comesOut_273 : decode cX12_comesOut 273 = .ok (.iload 8, 2) := by decide +kernel
theorem dX12_comesOut_275 : decode cX12_comesOut 275 = .ok (.iadd, 1) := by decide +kernel
theorem dX12_comesOut_276 : decode cX12_comesOut 276 = .ok (.iastore, 1) := by decide +kernel
theorem dX12_comesOut_277 : decode cX12_comesOut 277 = .ok (.iinc 7 1, 3) := by decide +kernel
theorem dX12_comesOut_280 : decode cX12_comesOut 280 = .ok (.goto (-212), 3) := by decide +kernel
theorem dX12_comesOut_248 : decode cX12_comesOut 248 = .ok (.aload_n 0, 1) := by decide +kernel
theorem dX12_comesOut_249 : decode cX12_comesOut 249 = .ok (.getfield 9, 3) := by decide +kernel
theorem dX12_comesOut_252 : decode cX12_comesOut 252 = .ok (.iload 4, 2) := by decide +kernel
theorem dX12_comesOut_254 : decode cX12_comesOut 254 = .ok (.iload 7, 2) := by decide +kernel
theorem dX12_comesOut_256 : decode cX12_comesOut 256 = .ok (.ifCond .ne 7, 3) := by decide +kernel
theorem dX12_comesOut_259 : decode cX12_comesOut 259 = .ok (.iconst 3, 1) := by decide +kernel
theorem dX12_comesOut_260 : decode cX12_comesOut 260 = .ok (.goto 10, 3) := by decide +kernel
theorem dX12_comesOut_263 : decode cX12_comesOut 263 = .ok (.bipush 7, 2) := by decide +kernel
theorem dX12_comesOut_265 : decode cX12_comesOut 265 = .ok (.iload 7, 2) := by decide +kernel
theorem dX12_comesOut_267 : decode cX12_comesOut 267 = .ok (.iadd, 1) := by decide +kernel
theorem dX12_comesOut_268 : decode cX12_comesOut 268 = .ok (.iconst 1, 1) := by decide +kernel
theorem dX12_comesOut_269 : decode cX12_comesOut 269 = .ok (.isub, 1) := by decide +kernel
theorem dX12_comesOut_229 : decode cX12_comesOut 229 = .ok (.iadd, 1) := by decide +kernel
theorem dX12_comesOut_230 : decode cX12_comesOut 230 = .ok (.istore 8, 2) := by decide +kernel
theorem dX12_comesOut_232 : decode cX12_comesOut 232 = .ok (.aload_n 0, 1) := by decide +kernel
theorem dX12_comesOut_233 : decode cX12_comesOut 233 = .ok (.getfield 9, 3) := by decide +kernel
theorem dX12_comesOut_236 : decode cX12_comesOut 236 = .ok (.iload_n 2, 1) := by decide +kernel
theorem dX12_comesOut_237 : decode cX12_comesOut 237 = .ok (.iconst 5, 1) := by decide +kernel
theorem dX12_comesOut_238 : decode cX12_comesOut 238 = .ok (.iadd, 1) := by decide +kernel
theorem dX12_comesOut_239 : decode cX12_comesOut 239 = .ok (.iload 7, 2) := by decide +kernel
theorem dX12_comesOut_241 : decode cX12_comesOut 241 = .ok (.iadd, 1) := by decide +kernel
theorem dX12_comesOut_242 : decode cX12_comesOut 242 = .ok (.dup2, 1) := by decide +kernel
theorem dX12_comesOut_243 : decode cX12_comesOut 243 = .ok (.iaload, 1) := by decide +kernel
theorem dX12_comesOut_244 : decode cX12_comesOut 244 = .ok (.iload 8, 2) := by decide +kernel
theorem dX12_comesOut_246 : decode cX12_comesOut 246 = .ok (.isub, 1) := by decide +kernel
theorem dX12_comesOut_247 : decode cX12_comesOut 247 = .ok (.iastore, 1) := by decide +kernel
theorem dX12_comesOut_165 : decode cX12_comesOut 165 = .ok (.iload 5, 2) := by decide +kernel
theorem dX12_comesOut_167 : decode cX12_comesOut 167 = .ok (.ifCond .eq 81, 3) := by decide +kernel
theorem dX12_comesOut_170 : decode cX12_comesOut 170 = .ok (.aload_n 0, 1) := by decide +kernel
theorem dX12_comesOut_171 : decode cX12_comesOut 171 = .ok (.getfield 9, 3) := by decide +kernel
theorem dX12_comesOut_174 : decode cX12_comesOut 174 = .ok (.iload_n 2, 1) := by decide +kernel
theorem dX12_comesOut_175 : decode cX12_comesOut 175 = .ok (.iconst 5, 1) := by decide +kernel
theorem dX12_comesOut_176 : decode cX12_comesOut 176 = .ok (.iadd, 1) := by decide +kernel
theorem dX12_comesOut_177 : decode cX12_comesOut 177 = .ok (.iload 7, 2) := by decide +kernel
theorem dX12_comesOut_179 : decode cX12_comesOut 179 = .ok (.iadd, 1) := by decide +kernel
theorem dX12_comesOut_180 : decode cX12_comesOut 180 = .ok (.dup2, 1) := by decide +kernel
theorem dX12_comesOut_181 : decode cX12_comesOut 181 = .ok (.iaload, 1) := by decide +kernel
theorem dX12_comesOut_182 : decode cX12_comesOut 182 = .ok (.iload 8, 2) := by decide +kernel
theorem dX12_comesOut_184 : decode cX12_comesOut 184 = .ok (.iadd, 1) := by decide +kernel
theorem dX12_comesOut_185 : decode cX12_comesOut 185 = .ok (.iastore, 1) := by decide +kernel
theorem dX12_comesOut_186 : decode cX12_comesOut 186 = .ok (.aload_n 0, 1) := by decide +kernel
theorem dX12_comesOut_187 : decode cX12_comesOut 187 = .ok (.getfield 9, 3) := by decide +kernel
theorem dX12_comesOut_190 : decode cX12_comesOut 190 = .ok (.iload_n 2, 1) := by decide +kernel
theorem dX12_comesOut_191 : decode cX12_comesOut 191 = .ok (.iconst 5, 1) := by decide +kernel
theorem dX12_comesOut_192 : decode cX12_comesOut 192 = .ok (.iadd, 1) := by decide +kernel
theorem dX12_comesOut_193 : decode cX12_comesOut 193 = .ok (.iload 7, 2) := by decide +kernel
theorem dX12_comesOut_195 : decode cX12_comesOut 195 = .ok (.iadd, 1) := by decide +kernel
theorem dX12_comesOut_196 : decode cX12_comesOut 196 = .ok (.iaload, 1) := by decide +kernel
theorem dX12_comesOut_197 : decode cX12_comesOut 197 = .ok (.istore 9, 2) := by decide +kernel
theorem dX12_comesOut_199 : decode cX12_comesOut 199 = .ok (.iload 9, 2) := by decide +kernel
theorem dX12_comesOut_201 : decode cX12_comesOut 201 = .ok (.aload_n 0, 1) := by decide +kernel
theorem dX12_comesOut_202 : decode cX12_comesOut 202 = .ok (.getfield 9, 3) := by decide +kernel
theorem dX12_comesOut_205 : decode cX12_comesOut 205 = .ok (.iload_n 2, 1) := by decide +kernel
theorem dX12_comesOut_206 : decode cX12_comesOut 206 = .ok (.iconst 4, 1) := by decide +kernel
theorem dX12_comesOut_207 : decode cX12_comesOut 207 = .ok (.iadd, 1) := by decide +kernel
theorem dX12_comesOut_208 : decode cX12_comesOut 208 = .ok (.iaload, 1) := by decide +kernel
theorem dX12_comesOut_209 : decode cX12_comesOut 209 = .ok (.idiv, 1) := by decide +kernel
theorem dX12_comesOut_210 : decode cX12_comesOut 210 = .ok (.iload 9, 2) := by decide +kernel
theorem dX12_comesOut_212 : decode cX12_comesOut 212 = .ok (.aload_n 0, 1) := by decide +kernel
theorem dX12_comesOut_213 : decode cX12_comesOut 213 = .ok (.getfield 9, 3) := by decide +kernel
theorem dX12_comesOut_216 : decode cX12_comesOut 216 = .ok (.iload_n 2, 1) := by decide +kernel
theorem dX12_comesOut_217 : decode cX12_comesOut 217 = .ok (.iconst 4, 1) := by decide +kernel
theorem dX12_comesOut_218 : decode cX12_comesOut 218 = .ok (.iadd, 1) := by decide +kernel
theorem dX12_comesOut_219 : decode cX12_comesOut 219 = .ok (.iaload, 1) := by decide +kernel
theorem dX12_comesOut_220 : decode cX12_comesOut 220 = .ok (.irem, 1) := by decide +kernel
theorem dX12_comesOut_221 : decode cX12_comesOut 221 = .ok (.ifCond .le 7, 3) := by decide +kernel
theorem dX12_comesOut_228 : decode cX12_comesOut 228 = .ok (.iconst 0, 1) := by decide +kernel
theorem dX12_comesOut_224 : decode cX12_comesOut 224 = .ok (.iconst 1, 1) := by decide +kernel
theorem dX12_comesOut_225 : decode cX12_comesOut 225 = .ok (.goto 4, 3) := by decide +kernel
theorem dX12_comesOut_134 : decode cX12_comesOut 134 = .ok (.imul, 1) := by decide +kernel
theorem dX12_comesOut_135 : decode cX12_comesOut 135 = .ok (.bipush 100, 2) := by decide +kernel
theorem dX12_comesOut_137 : decode cX12_comesOut 137 = .ok (.idiv, 1) := by decide +kernel
theorem dX12_comesOut_138 : decode cX12_comesOut 138 = .ok (.istore 10, 2) := by decide +kernel
theorem dX12_comesOut_140 : decode cX12_comesOut 140 = .ok (.aload_n 0, 1) := by decide +kernel
theorem dX12_comesOut_141 : decode cX12_comesOut 141 = .ok (.getfield 9, 3) := by decide +kernel
theorem dX12_comesOut_144 : decode cX12_comesOut 144 = .ok (.iload 7, 2) := by decide +kernel
theorem dX12_comesOut_146 : decode cX12_comesOut 146 = .ok (.iconst 1, 1) := by decide +kernel
theorem dX12_comesOut_147 : decode cX12_comesOut 147 = .ok (.isub, 1) := by decide +kernel
theorem dX12_comesOut_148 : decode cX12_comesOut 148 = .ok (.iconst 3, 1) := by decide +kernel
theorem dX12_comesOut_149 : decode cX12_comesOut 149 = .ok (.invokestatic 123, 3) := by decide +kernel
theorem dX12_comesOut_152 : decode cX12_comesOut 152 = .ok (.dup2, 1) := by decide +kernel
theorem dX12_comesOut_153 : decode cX12_comesOut 153 = .ok (.iaload, 1) := by decide +kernel
theorem dX12_comesOut_154 : decode cX12_comesOut 154 = .ok (.iload 10, 2) := by decide +kernel
theorem dX12_comesOut_156 : decode cX12_comesOut 156 = .ok (.iadd, 1) := by decide +kernel
theorem dX12_comesOut_157 : decode cX12_comesOut 157 = .ok (.iastore, 1) := by decide +kernel
theorem dX12_comesOut_158 : decode cX12_comesOut 158 = .ok (.iload 8, 2) := by decide +kernel
theorem dX12_comesOut_160 : decode cX12_comesOut 160 = .ok (.iload 10, 2) := by decide +kernel
theorem dX12_comesOut_162 : decode cX12_comesOut 162 = .ok (.isub, 1) := by decide +kernel
theorem dX12_comesOut_163 : decode cX12_comesOut 163 = .ok (.istore 8, 2) := by decide +kernel
theorem dX12_comesOut_68 : decode cX12_comesOut 68 = .ok (.iload 7, 2) := by decide +kernel
theorem dX12_comesOut_70 : decode cX12_comesOut 70 = .ok (.iconst 5, 1) := by decide +kernel
theorem dX12_comesOut_71 : decode cX12_comesOut 71 = .ok (.if_icmp .ge 212, 3) := by decide +kernel
theorem dX12_comesOut_283 : decode cX12_comesOut 283 = .ok (.return_, 1) := by decide +kernel
theorem dX12_comesOut_74 : decode cX12_comesOut 74 = .ok (.aload_n 0, 1) := by decide +kernel
theorem dX12_comesOut_75 : decode cX12_comesOut 75 = .ok (.getfield 9, 3) := by decide +kernel
theorem dX12_comesOut_78 : decode cX12_comesOut 78 = .ok (.iload 6, 2) := by decide +kernel
theorem dX12_comesOut_80 : decode cX12_comesOut 80 = .ok (.iload 7, 2) := by decide +kernel
theorem dX12_comesOut_82 : decode cX12_comesOut 82 = .ok (.iadd, 1) := by decide +kernel
theorem dX12_comesOut_83 : decode cX12_comesOut 83 = .ok (.iaload, 1) := by decide +kernel
theorem dX12_comesOut_84 : decode cX12_comesOut 84 = .ok (.istore 8, 2) := by decide +kernel
theorem dX12_comesOut_86 : decode cX12_comesOut 86 = .ok (.aload_n 0, 1) := by decide +kernel
theorem dX12_comesOut_87 : decode cX12_comesOut 87 = .ok (.getfield 9, 3) := by decide +kernel
theorem dX12_comesOut_90 : decode cX12_comesOut 90 = .ok (.iload 6, 2) := by decide +kernel
theorem dX12_comesOut_92 : decode cX12_comesOut 92 = .ok (.iload 7, 2) := by decide +kernel
theorem dX12_comesOut_94 : decode cX12_comesOut 94 = .ok (.iadd, 1) := by decide +kernel
theorem dX12_comesOut_95 : decode cX12_comesOut 95 = .ok (.iconst 0, 1) := by decide +kernel
theorem dX12_comesOut_96 : decode cX12_comesOut 96 = .ok (.iastore, 1) := by decide +kernel
theorem dX12_comesOut_97 : decode cX12_comesOut 97 = .ok (.iload 7, 2) := by decide +kernel
theorem dX12_comesOut_99 : decode cX12_comesOut 99 = .ok (.ifCond .le 66, 3) := by decide +kernel
theorem dX12_comesOut_102 : decode cX12_comesOut 102 = .ok (.aload_n 0, 1) := by decide +kernel
theorem dX12_comesOut_103 : decode cX12_comesOut 103 = .ok (.getfield 9, 3) := by decide +kernel
theorem dX12_comesOut_106 : decode cX12_comesOut 106 = .ok (.bipush 10, 2) := by decide +kernel
theorem dX12_comesOut_108 : decode cX12_comesOut 108 = .ok (.iload 7, 2) := by decide +kernel
theorem dX12_comesOut_110 : decode cX12_comesOut 110 = .ok (.iadd, 1) := by decide +kernel
theorem dX12_comesOut_111 : decode cX12_comesOut 111 = .ok (.iconst 1, 1) := by decide +kernel
theorem dX12_comesOut_112 : decode cX12_comesOut 112 = .ok (.isub, 1) := by decide +kernel
theorem dX12_comesOut_113 : decode cX12_comesOut 113 = .ok (.iaload, 1) := by decide +kernel
theorem dX12_comesOut_114 : decode cX12_comesOut 114 = .ok (.iload_n 3, 1) := by decide +kernel
theorem dX12_comesOut_115 : decode cX12_comesOut 115 = .ok (.imul, 1) := by decide +kernel
theorem dX12_comesOut_116 : decode cX12_comesOut 116 = .ok (.istore 9, 2) := by decide +kernel
theorem dX12_comesOut_118 : decode cX12_comesOut 118 = .ok (.iload 8, 2) := by decide +kernel
theorem dX12_comesOut_120 : decode cX12_comesOut 120 = .ok (.iload 9, 2) := by decide +kernel
theorem dX12_comesOut_122 : decode cX12_comesOut 122 = .ok (.bipush 100, 2) := by decide +kernel
theorem dX12_comesOut_124 : decode cX12_comesOut 124 = .ok (.if_icmp .ge 8, 3) := by decide +kernel
theorem dX12_comesOut_132 : decode cX12_comesOut 132 = .ok (.bipush 100, 2) := by decide +kernel
theorem dX12_comesOut_127 : decode cX12_comesOut 127 = .ok (.iload 9, 2) := by decide +kernel
theorem dX12_comesOut_129 : decode cX12_comesOut 129 = .ok (.goto 5, 3) := by decide +kernel
theorem dX12_comesOut_39 : decode cX12_comesOut 39 = .ok (.istore 5, 2) := by decide +kernel
theorem dX12_comesOut_41 : decode cX12_comesOut 41 = .ok (.iload_n 2, 1) := by decide +kernel
theorem dX12_comesOut_42 : decode cX12_comesOut 42 = .ok (.bipush 10, 2) := by decide +kernel
theorem dX12_comesOut_44 : decode cX12_comesOut 44 = .ok (.iadd, 1) := by decide +kernel
theorem dX12_comesOut_45 : decode cX12_comesOut 45 = .ok (.iconst 5, 1) := by decide +kernel
theorem dX12_comesOut_46 : decode cX12_comesOut 46 = .ok (.aload_n 0, 1) := by decide +kernel
theorem dX12_comesOut_47 : decode cX12_comesOut 47 = .ok (.getfield 9, 3) := by decide +kernel
theorem dX12_comesOut_50 : decode cX12_comesOut 50 = .ok (.iconst 0, 1) := by decide +kernel
theorem dX12_comesOut_51 : decode cX12_comesOut 51 = .ok (.iaload, 1) := by decide +kernel
theorem dX12_comesOut_52 : decode cX12_comesOut 52 = .ok (.iload_n 3, 1) := by decide +kernel
theorem dX12_comesOut_53 : decode cX12_comesOut 53 = .ok (.isub, 1) := by decide +kernel
theorem dX12_comesOut_54 : decode cX12_comesOut 54 = .ok (.sipush 410, 3) := by decide +kernel
theorem dX12_comesOut_57 : decode cX12_comesOut 57 = .ok (.iadd, 1) := by decide +kernel
theorem dX12_comesOut_58 : decode cX12_comesOut 58 = .ok (.bipush 41, 2) := by decide +kernel
theorem dX12_comesOut_60 : decode cX12_comesOut 60 = .ok (.irem, 1) := by decide +kernel
theorem dX12_comesOut_61 : decode cX12_comesOut 61 = .ok (.imul, 1) := by decide +kernel
theorem dX12_comesOut_62 : decode cX12_comesOut 62 = .ok (.iadd, 1) := by decide +kernel
theorem dX12_comesOut_63 : decode cX12_comesOut 63 = .ok (.istore 6, 2) := by decide +kernel
theorem dX12_comesOut_65 : decode cX12_comesOut 65 = .ok (.iconst 0, 1) := by decide +kernel
theorem dX12_comesOut_66 : decode cX12_comesOut 66 = .ok (.istore 7, 2) := by decide +kernel
theorem dX12_comesOut_0 : decode cX12_comesOut 0 = .ok (.iload_n 1, 1) := by decide +kernel
theorem dX12_comesOut_1 : decode cX12_comesOut 1 = .ok (.invokestatic 99, 3) := by decide +kernel
theorem dX12_comesOut_4 : decode cX12_comesOut 4 = .ok (.istore_n 2, 1) := by decide +kernel
theorem dX12_comesOut_5 : decode cX12_comesOut 5 = .ok (.aload_n 0, 1) := by decide +kernel
theorem dX12_comesOut_6 : decode cX12_comesOut 6 = .ok (.iload_n 1, 1) := by decide +kernel
theorem dX12_comesOut_7 : decode cX12_comesOut 7 = .ok (.invokevirtual 112, 3) := by decide +kernel
theorem dX12_comesOut_10 : decode cX12_comesOut 10 = .ok (.istore_n 3, 1) := by decide +kernel
theorem dX12_comesOut_11 : decode cX12_comesOut 11 = .ok (.aload_n 0, 1) := by decide +kernel
theorem dX12_comesOut_12 : decode cX12_comesOut 12 = .ok (.getfield 9, 3) := by decide +kernel
theorem dX12_comesOut_15 : decode cX12_comesOut 15 = .ok (.iload_n 2, 1) := by decide +kernel
theorem dX12_comesOut_16 : decode cX12_comesOut 16 = .ok (.iconst 2, 1) := by decide +kernel
theorem dX12_comesOut_17 : decode cX12_comesOut 17 = .ok (.iadd, 1) := by decide +kernel
theorem dX12_comesOut_18 : decode cX12_comesOut 18 = .ok (.iaload, 1) := by decide +kernel
theorem dX12_comesOut_19 : decode cX12_comesOut 19 = .ok (.invokestatic 71, 3) := by decide +kernel
theorem dX12_comesOut_22 : decode cX12_comesOut 22 = .ok (.istore 4, 2) := by decide +kernel
theorem dX12_comesOut_24 : decode cX12_comesOut 24 = .ok (.aload_n 0, 1) := by decide +kernel
theorem dX12_comesOut_25 : decode cX12_comesOut 25 = .ok (.getfield 9, 3) := by decide +kernel
theorem dX12_comesOut_28 : decode cX12_comesOut 28 = .ok (.iload_n 2, 1) := by decide +kernel
theorem dX12_comesOut_29 : decode cX12_comesOut 29 = .ok (.iaload, 1) := by decide +kernel
theorem dX12_comesOut_30 : decode cX12_comesOut 30 = .ok (.iconst 4, 1) := by decide +kernel
theorem dX12_comesOut_31 : decode cX12_comesOut 31 = .ok (.if_icmp .ne 7, 3) := by decide +kernel
theorem dX12_comesOut_34 : decode cX12_comesOut 34 = .ok (.iconst 1, 1) := by decide +kernel
theorem dX12_comesOut_35 : decode cX12_comesOut 35 = .ok (.goto 4, 3) := by decide +kernel
theorem dX12_comesOut_38 : decode cX12_comesOut 38 = .ok (.iconst 0, 1) := by decide +kernel
def D_X12_comesOut_270 (N : Nat) (k68 : mh_H → Nat → Int32 → Int32 → Int32 → Int32 → Int32 → Int32 → Option mh_H) (h : mh_H) (l0 : Nat) (l2 : Int32) (l3 : Int32) (l4 : Int32) (l5 : Int32) (l6 : Int32) (l7 : Int32) (l8 : Int32) (s0 : Nat) (s1 : Int32) (s2 : Int32) : Option mh_H :=
  (aI h s0 (s1 + s2)).bind fun v1 =>
  (uI h s0 (s1 + s2) (v1 + l8)).bind fun h2 =>
  k68 h2 l0 l2 l3 l4 l5 l6 (l7 + Int32.ofInt (1))
set_option maxHeartbeats 4000000 in
set_option maxRecDepth 100000 in
theorem T_X12_comesOut_270 {P : mh_E → Prop} {N d : Nat} (hd : 4 ≤ d) {z : mh_H} {k68 : mh_H → Nat → Int32 → Int32 → Int32 → Int32 → Int32 → Int32 → Option mh_H} (hk68 : ∀ (h : mh_H) (l0 : Nat) (l2 : Int32) (l3 : Int32) (l4 : Int32) (l5 : Int32) (l6 : Int32) (l7 : Int32), k68 h l0 l2 l3 l4 l5 l6 l7 = some z → mh_go P d mX12_comesOut 68 [some (.ref l0), none, some (.int l2), some (.int l3), some (.int l4), some (.int l5), some (.int l6), some (.int l7), none, none, none] [] h none z) {h : mh_H} {l0 : Nat} {l2 : Int32} {l3 : Int32} {l4 : Int32} {l5 : Int32} {l6 : Int32} {l7 : Int32} {l8 : Int32} {s0 : Nat} {s1 : Int32} {s2 : Int32} (hq : D_X12_comesOut_270 N k68 h l0 l2 l3 l4 l5 l6 l7 l8 s0 s1 s2 = some z) : mh_go P d mX12_comesOut 270 [some (.ref l0), none, some (.int l2), some (.int l3), some (.int l4), some (.int l5), some (.int l6), some (.int l7), some (.int l8), none, none] [.int s2, .int s1, .ref s0] h none z := by
  unfold D_X12_comesOut_270 at hq
  refine st_iadd (pc := 270) dX12_comesOut_270 ?_
  refine st_dup2 (pc := 271) dX12_comesOut_271 rfl rfl ?_
  refine bd_iald (pc := 272) hq dX12_comesOut_272 (fun v1 hq => ?_)
  refine st_iload (pc := 273) dX12_comesOut_273 rfl ?_
  refine st_iadd (pc := 275) dX12_comesOut_275 ?_
  refine bd_iast (pc := 276) hq dX12_comesOut_276 (fun h2 hq => ?_)
  refine st_iinc (pc := 277) (lv' := [some (.ref l0), none, some (.int l2), some (.int l3), some (.int l4), some (.int l5), some (.int l6), some (.int (l7 + Int32.ofInt (1))), some (.int l8), none, none]) dX12_comesOut_277 rfl rfl (by decide) rfl ?_
  refine st_goto (pc := 280) (tgt := 68) dX12_comesOut_280 (by decide) ?_
  refine st_lesS (lv' := [some (.ref l0), none, some (.int l2), some (.int l3), some (.int l4), some (.int l5), some (.int l6), some (.int (l7 + Int32.ofInt (1))), none, none, none]) ⟨Or.inr rfl, Or.inr rfl, Or.inr rfl, Or.inr rfl, Or.inr rfl, Or.inr rfl, Or.inr rfl, Or.inr rfl, Or.inl rfl, Or.inr rfl, Or.inr rfl, trivial⟩ ?_
  exact hk68 _ _ _ _ _ _ _ _ hq
def D_X12_comesOut_248 (N : Nat) (k68 : mh_H → Nat → Int32 → Int32 → Int32 → Int32 → Int32 → Int32 → Option mh_H) (h : mh_H) (l0 : Nat) (l2 : Int32) (l3 : Int32) (l4 : Int32) (l5 : Int32) (l6 : Int32) (l7 : Int32) (l8 : Int32) : Option mh_H :=
  (gR h 12 l0 0).bind fun v1 =>
  if l7 = 0 then (D_X12_comesOut_270 N k68 h l0 l2 l3 l4 l5 l6 l7 l8 v1 l4 (3 : Int32))
  else (D_X12_comesOut_270 N k68 h l0 l2 l3 l4 l5 l6 l7 l8 v1 l4 (((7 : Int32) + l7) - (1 : Int32)))
set_option maxHeartbeats 4000000 in
set_option maxRecDepth 100000 in
theorem T_X12_comesOut_248 {P : mh_E → Prop} {N d : Nat} (hd : 4 ≤ d) {z : mh_H} {k68 : mh_H → Nat → Int32 → Int32 → Int32 → Int32 → Int32 → Int32 → Option mh_H} (hk68 : ∀ (h : mh_H) (l0 : Nat) (l2 : Int32) (l3 : Int32) (l4 : Int32) (l5 : Int32) (l6 : Int32) (l7 : Int32), k68 h l0 l2 l3 l4 l5 l6 l7 = some z → mh_go P d mX12_comesOut 68 [some (.ref l0), none, some (.int l2), some (.int l3), some (.int l4), some (.int l5), some (.int l6), some (.int l7), none, none, none] [] h none z) {h : mh_H} {l0 : Nat} {l2 : Int32} {l3 : Int32} {l4 : Int32} {l5 : Int32} {l6 : Int32} {l7 : Int32} {l8 : Int32} (hq : D_X12_comesOut_248 N k68 h l0 l2 l3 l4 l5 l6 l7 l8 = some z) : mh_go P d mX12_comesOut 248 [some (.ref l0), none, some (.int l2), some (.int l3), some (.int l4), some (.int l5), some (.int l6), some (.int l7), some (.int l8), none, none] [] h none z := by
  unfold D_X12_comesOut_248 at hq
  refine st_aload_n (pc := 248) dX12_comesOut_248 rfl ?_
  refine bd_getr (pc := 249) hq dX12_comesOut_249 fl_12_9_12 rfl (fun v1 hq => ?_)
  refine st_iload (pc := 252) dX12_comesOut_252 rfl ?_
  refine st_iload (pc := 254) dX12_comesOut_254 rfl ?_
  refine bd_if_ne (pc := 256) (tgt := 263) hq dX12_comesOut_256 (by decide) (fun _ hq => ?_) (fun _ hq => ?_)
  ·
    refine st_iconst (pc := 259) (v := (3 : Int32)) dX12_comesOut_259 rfl ?_
    refine st_goto (pc := 260) (tgt := 270) dX12_comesOut_260 (by decide) ?_
    exact T_X12_comesOut_270 hd hk68 hq
  ·
    refine st_bipush (pc := 263) (v := (7 : Int32)) dX12_comesOut_263 (by decide) ?_
    refine st_iload (pc := 265) dX12_comesOut_265 rfl ?_
    refine st_iadd (pc := 267) dX12_comesOut_267 ?_
    refine st_iconst (pc := 268) (v := (1 : Int32)) dX12_comesOut_268 rfl ?_
    refine st_isub (pc := 269) dX12_comesOut_269 ?_
    exact T_X12_comesOut_270 hd hk68 hq
def D_X12_comesOut_229 (N : Nat) (k68 : mh_H → Nat → Int32 → Int32 → Int32 → Int32 → Int32 → Int32 → Option mh_H) (h : mh_H) (l0 : Nat) (l2 : Int32) (l3 : Int32) (l4 : Int32) (l5 : Int32) (l6 : Int32) (l7 : Int32) (s0 : Int32) (s1 : Int32) : Option mh_H :=
  (gR h 12 l0 0).bind fun v1 =>
  (aI h v1 ((l2 + (5 : Int32)) + l7)).bind fun v2 =>
  (uI h v1 ((l2 + (5 : Int32)) + l7) (v2 - (s0 + s1))).bind fun h3 =>
  D_X12_comesOut_248 N k68 h3 l0 l2 l3 l4 l5 l6 l7 (s0 + s1)
set_option maxHeartbeats 4000000 in
set_option maxRecDepth 100000 in
theorem T_X12_comesOut_229 {P : mh_E → Prop} {N d : Nat} (hd : 4 ≤ d) {z : mh_H} {k68 : mh_H → Nat → Int32 → Int32 → Int32 → Int32 → Int32 → Int32 → Option mh_H} (hk68 : ∀ (h : mh_H) (l0 : Nat) (l2 : Int32) (l3 : Int32) (l4 : Int32) (l5 : Int32) (l6 : Int32) (l7 : Int32), k68 h l0 l2 l3 l4 l5 l6 l7 = some z → mh_go P d mX12_comesOut 68 [some (.ref l0), none, some (.int l2), some (.int l3), some (.int l4), some (.int l5), some (.int l6), some (.int l7), none, none, none] [] h none z) {h : mh_H} {l0 : Nat} {l2 : Int32} {l3 : Int32} {l4 : Int32} {l5 : Int32} {l6 : Int32} {l7 : Int32} {s0 : Int32} {s1 : Int32} (hq : D_X12_comesOut_229 N k68 h l0 l2 l3 l4 l5 l6 l7 s0 s1 = some z) : mh_go P d mX12_comesOut 229 [some (.ref l0), none, some (.int l2), some (.int l3), some (.int l4), some (.int l5), some (.int l6), some (.int l7), none, none, none] [.int s1, .int s0] h none z := by
  unfold D_X12_comesOut_229 at hq
  refine st_iadd (pc := 229) dX12_comesOut_229 ?_
  refine st_istore (pc := 230) (lv' := [some (.ref l0), none, some (.int l2), some (.int l3), some (.int l4), some (.int l5), some (.int l6), some (.int l7), some (.int (s0 + s1)), none, none]) dX12_comesOut_230 rfl (by decide) rfl ?_
  refine st_aload_n (pc := 232) dX12_comesOut_232 rfl ?_
  refine bd_getr (pc := 233) hq dX12_comesOut_233 fl_12_9_12 rfl (fun v1 hq => ?_)
  refine st_iload_n (pc := 236) dX12_comesOut_236 rfl ?_
  refine st_iconst (pc := 237) (v := (5 : Int32)) dX12_comesOut_237 rfl ?_
  refine st_iadd (pc := 238) dX12_comesOut_238 ?_
  refine st_iload (pc := 239) dX12_comesOut_239 rfl ?_
  refine st_iadd (pc := 241) dX12_comesOut_241 ?_
  refine st_dup2 (pc := 242) dX12_comesOut_242 rfl rfl ?_
  refine bd_iald (pc := 243) hq dX12_comesOut_243 (fun v2 hq => ?_)
  refine st_iload (pc := 244) dX12_comesOut_244 rfl ?_
  refine st_isub (pc := 246) dX12_comesOut_246 ?_
  refine bd_iast (pc := 247) hq dX12_comesOut_247 (fun h3 hq => ?_)
  exact T_X12_comesOut_248 hd hk68 hq
def D_X12_comesOut_165 (N : Nat) (k68 : mh_H → Nat → Int32 → Int32 → Int32 → Int32 → Int32 → Int32 → Option mh_H) (h : mh_H) (l0 : Nat) (l2 : Int32) (l3 : Int32) (l4 : Int32) (l5 : Int32) (l6 : Int32) (l7 : Int32) (l8 : Int32) : Option mh_H :=
  if l5 = 0 then (D_X12_comesOut_248 N k68 h l0 l2 l3 l4 l5 l6 l7 l8)
  else ((gR h 12 l0 0).bind fun v1 =>
  (aI h v1 ((l2 + (5 : Int32)) + l7)).bind fun v2 =>
  (uI h v1 ((l2 + (5 : Int32)) + l7) (v2 + l8)).bind fun h3 =>
  (gR h3 12 l0 0).bind fun v4 =>
  (aI h3 v4 ((l2 + (5 : Int32)) + l7)).bind fun v5 =>
  (gR h3 12 l0 0).bind fun v6 =>
  (aI h3 v6 (l2 + (4 : Int32))).bind fun v7 =>
  dN v7 <|
  (gR h3 12 l0 0).bind fun v8 =>
  (aI h3 v8 (l2 + (4 : Int32))).bind fun v9 =>
  dN v9 <|
  if (v5 - v5 / v9 * v9) ≤ 0 then (D_X12_comesOut_229 N k68 h3 l0 l2 l3 l4 l5 l6 l7 (v5 / v7) (0 : Int32))
  else (D_X12_comesOut_229 N k68 h3 l0 l2 l3 l4 l5 l6 l7 (v5 / v7) (1 : Int32)))
set_option maxHeartbeats 4000000 in
set_option maxRecDepth 100000 in
theorem T_X12_comesOut_165 {P : mh_E → Prop} {N d : Nat} (hd : 4 ≤ d) {z : mh_H} {k68 : mh_H → Nat → Int32 → Int32 → Int32 → Int32 → Int32 → Int32 → Option mh_H} (hk68 : ∀ (h : mh_H) (l0 : Nat) (l2 : Int32) (l3 : Int32) (l4 : Int32) (l5 : Int32) (l6 : Int32) (l7 : Int32), k68 h l0 l2 l3 l4 l5 l6 l7 = some z → mh_go P d mX12_comesOut 68 [some (.ref l0), none, some (.int l2), some (.int l3), some (.int l4), some (.int l5), some (.int l6), some (.int l7), none, none, none] [] h none z) {h : mh_H} {l0 : Nat} {l2 : Int32} {l3 : Int32} {l4 : Int32} {l5 : Int32} {l6 : Int32} {l7 : Int32} {l8 : Int32} (hq : D_X12_comesOut_165 N k68 h l0 l2 l3 l4 l5 l6 l7 l8 = some z) : mh_go P d mX12_comesOut 165 [some (.ref l0), none, some (.int l2), some (.int l3), some (.int l4), some (.int l5), some (.int l6), some (.int l7), some (.int l8), none, none] [] h none z := by
  unfold D_X12_comesOut_165 at hq
  refine st_iload (pc := 165) dX12_comesOut_165 rfl ?_
  refine bd_if_eq (pc := 167) (tgt := 248) hq dX12_comesOut_167 (by decide) (fun _ hq => ?_) (fun _ hq => ?_)
  ·
    exact T_X12_comesOut_248 hd hk68 hq
  ·
    refine st_aload_n (pc := 170) dX12_comesOut_170 rfl ?_
    refine bd_getr (pc := 171) hq dX12_comesOut_171 fl_12_9_12 rfl (fun v1 hq => ?_)
    refine st_iload_n (pc := 174) dX12_comesOut_174 rfl ?_
    refine st_iconst (pc := 175) (v := (5 : Int32)) dX12_comesOut_175 rfl ?_
    refine st_iadd (pc := 176) dX12_comesOut_176 ?_
    refine st_iload (pc := 177) dX12_comesOut_177 rfl ?_
    refine st_iadd (pc := 179) dX12_comesOut_179 ?_
    refine st_dup2 (pc := 180) dX12_comesOut_180 rfl rfl ?_
    refine bd_iald (pc := 181) hq dX12_comesOut_181 (fun v2 hq => ?_)
    refine st_iload (pc := 182) dX12_comesOut_182 rfl ?_
    refine st_iadd (pc := 184) dX12_comesOut_184 ?_
    refine bd_iast (pc := 185) hq dX12_comesOut_185 (fun h3 hq => ?_)
    refine st_aload_n (pc := 186) dX12_comesOut_186 rfl ?_
    refine bd_getr (pc := 187) hq dX12_comesOut_187 fl_12_9_12 rfl (fun v4 hq => ?_)
    refine st_iload_n (pc := 190) dX12_comesOut_190 rfl ?_
    refine st_iconst (pc := 191) (v := (5 : Int32)) dX12_comesOut_191 rfl ?_
    refine st_iadd (pc := 192) dX12_comesOut_192 ?_
    refine st_iload (pc := 193) dX12_comesOut_193 rfl ?_
    refine st_iadd (pc := 195) dX12_comesOut_195 ?_
    refine bd_iald (pc := 196) hq dX12_comesOut_196 (fun v5 hq => ?_)
    refine st_istore (pc := 197) (lv' := [some (.ref l0), none, some (.int l2), some (.int l3), some (.int l4), some (.int l5), some (.int l6), some (.int l7), some (.int l8), some (.int v5), none]) dX12_comesOut_197 rfl (by decide) rfl ?_
    refine st_iload (pc := 199) dX12_comesOut_199 rfl ?_
    refine st_aload_n (pc := 201) dX12_comesOut_201 rfl ?_
    refine bd_getr (pc := 202) hq dX12_comesOut_202 fl_12_9_12 rfl (fun v6 hq => ?_)
    refine st_iload_n (pc := 205) dX12_comesOut_205 rfl ?_
    refine st_iconst (pc := 206) (v := (4 : Int32)) dX12_comesOut_206 rfl ?_
    refine st_iadd (pc := 207) dX12_comesOut_207 ?_
    refine bd_iald (pc := 208) hq dX12_comesOut_208 (fun v7 hq => ?_)
    refine bd_idiv (pc := 209) hq dX12_comesOut_209 (fun hq => ?_)
    refine st_iload (pc := 210) dX12_comesOut_210 rfl ?_
    refine st_aload_n (pc := 212) dX12_comesOut_212 rfl ?_
    refine bd_getr (pc := 213) hq dX12_comesOut_213 fl_12_9_12 rfl (fun v8 hq => ?_)
    refine st_iload_n (pc := 216) dX12_comesOut_216 rfl ?_
    refine st_iconst (pc := 217) (v := (4 : Int32)) dX12_comesOut_217 rfl ?_
    refine st_iadd (pc := 218) dX12_comesOut_218 ?_
    refine bd_iald (pc := 219) hq dX12_comesOut_219 (fun v9 hq => ?_)
    refine bd_irem (pc := 220) hq dX12_comesOut_220 (fun hq => ?_)
    refine bd_if_le (pc := 221) (tgt := 228) hq dX12_comesOut_221 (by decide) (fun _ hq => ?_) (fun _ hq => ?_)
    ·
      refine st_iconst (pc := 228) (v := (0 : Int32)) dX12_comesOut_228 rfl ?_
      refine st_lesS (lv' := [some (.ref l0), none, some (.int l2), some (.int l3), some (.int l4), some (.int l5), some (.int l6), some (.int l7), none, none, none]) ⟨Or.inr rfl, Or.inr rfl, Or.inr rfl, Or.inr rfl, Or.inr rfl, Or.inr rfl, Or.inr rfl, Or.inr rfl, Or.inl rfl, Or.inl rfl, Or.inr rfl, trivial⟩ ?_
      exact T_X12_comesOut_229 hd hk68 hq
    ·
      refine st_iconst (pc := 224) (v := (1 : Int32)) dX12_comesOut_224 rfl ?_
      refine st_goto (pc := 225) (tgt := 229) dX12_comesOut_225 (by decide) ?_
      refine st_lesS (lv' := [some (.ref l0), none, some (.int l2), some (.int l3), some (.int l4), some (.int l5), some (.int l6), some (.int l7), none, none, none]) ⟨Or.inr rfl, Or.inr rfl, Or.inr rfl, Or.inr rfl, Or.inr rfl, Or.inr rfl, Or.inr rfl, Or.inr rfl, Or.inl rfl, Or.inl rfl, Or.inr rfl, trivial⟩ ?_
      exact T_X12_comesOut_229 hd hk68 hq
def D_X12_comesOut_134 (N : Nat) (k68 : mh_H → Nat → Int32 → Int32 → Int32 → Int32 → Int32 → Int32 → Option mh_H) (h : mh_H) (l0 : Nat) (l2 : Int32) (l3 : Int32) (l4 : Int32) (l5 : Int32) (l6 : Int32) (l7 : Int32) (l8 : Int32) (s0 : Int32) (s1 : Int32) : Option mh_H :=
  dN (100 : Int32) <|
  (gR h 12 l0 0).bind fun v1 =>
  (D_X12_stuffAt N h (l7 - (1 : Int32)) (3 : Int32)).bind fun q2 =>
  (aI q2.2 v1 q2.1).bind fun v3 =>
  (uI q2.2 v1 q2.1 (v3 + ((s0 * s1) / (100 : Int32)))).bind fun h4 =>
  D_X12_comesOut_165 N k68 h4 l0 l2 l3 l4 l5 l6 l7 (l8 - ((s0 * s1) / (100 : Int32)))
set_option maxHeartbeats 4000000 in
set_option maxRecDepth 100000 in
theorem T_X12_comesOut_134 {P : mh_E → Prop} {N d : Nat} (hd : 4 ≤ d) {z : mh_H} {k68 : mh_H → Nat → Int32 → Int32 → Int32 → Int32 → Int32 → Int32 → Option mh_H} (hk68 : ∀ (h : mh_H) (l0 : Nat) (l2 : Int32) (l3 : Int32) (l4 : Int32) (l5 : Int32) (l6 : Int32) (l7 : Int32), k68 h l0 l2 l3 l4 l5 l6 l7 = some z → mh_go P d mX12_comesOut 68 [some (.ref l0), none, some (.int l2), some (.int l3), some (.int l4), some (.int l5), some (.int l6), some (.int l7), none, none, none] [] h none z) {h : mh_H} {l0 : Nat} {l2 : Int32} {l3 : Int32} {l4 : Int32} {l5 : Int32} {l6 : Int32} {l7 : Int32} {l8 : Int32} {s0 : Int32} {s1 : Int32} (hq : D_X12_comesOut_134 N k68 h l0 l2 l3 l4 l5 l6 l7 l8 s0 s1 = some z) : mh_go P d mX12_comesOut 134 [some (.ref l0), none, some (.int l2), some (.int l3), some (.int l4), some (.int l5), some (.int l6), some (.int l7), some (.int l8), none, none] [.int s1, .int s0] h none z := by
  unfold D_X12_comesOut_134 at hq
  refine st_imul (pc := 134) dX12_comesOut_134 ?_
  refine st_bipush (pc := 135) (v := (100 : Int32)) dX12_comesOut_135 (by decide) ?_
  refine bd_idiv (pc := 137) hq dX12_comesOut_137 (fun hq => ?_)
  refine st_istore (pc := 138) (lv' := [some (.ref l0), none, some (.int l2), some (.int l3), some (.int l4), some (.int l5), some (.int l6), some (.int l7), some (.int l8), none, some (.int ((s0 * s1) / (100 : Int32)))]) dX12_comesOut_138 rfl (by decide) rfl ?_
  refine st_aload_n (pc := 140) dX12_comesOut_140 rfl ?_
  refine bd_getr (pc := 141) hq dX12_comesOut_141 fl_12_9_12 rfl (fun v1 hq => ?_)
  refine st_iload (pc := 144) dX12_comesOut_144 rfl ?_
  refine st_iconst (pc := 146) (v := (1 : Int32)) dX12_comesOut_146 rfl ?_
  refine st_isub (pc := 147) dX12_comesOut_147 ?_
  refine st_iconst (pc := 148) (v := (3 : Int32)) dX12_comesOut_148 rfl ?_
  obtain ⟨q2, e2, hq⟩ := mh_ob hq
  refine st_invS (pc := 149) (Y := mX12_stuffAt) (vs := [.int (l7 - (1 : Int32)), .int (3 : Int32)]) (rest := [.ref v1]) (st2 := [.int q2.1, .ref v1]) dX12_comesOut_149 okX12_stuffAt wd_1374 wd_1375 pdX12_stuffAt rfl rfl rfl rfl (Nat.le_trans (by decide) hd) (Nat.le_of_ble_eq_true rfl) (T_X12_stuffAt (Nat.le_refl _) e2) rfl ?_
  refine st_dup2 (pc := 152) dX12_comesOut_152 rfl rfl ?_
  refine bd_iald (pc := 153) hq dX12_comesOut_153 (fun v3 hq => ?_)
  refine st_iload (pc := 154) dX12_comesOut_154 rfl ?_
  refine st_iadd (pc := 156) dX12_comesOut_156 ?_
  refine bd_iast (pc := 157) hq dX12_comesOut_157 (fun h4 hq => ?_)
  refine st_iload (pc := 158) dX12_comesOut_158 rfl ?_
  refine st_iload (pc := 160) dX12_comesOut_160 rfl ?_
  refine st_isub (pc := 162) dX12_comesOut_162 ?_
  refine st_istore (pc := 163) (lv' := [some (.ref l0), none, some (.int l2), some (.int l3), some (.int l4), some (.int l5), some (.int l6), some (.int l7), some (.int (l8 - ((s0 * s1) / (100 : Int32)))), none, some (.int ((s0 * s1) / (100 : Int32)))]) dX12_comesOut_163 rfl (by decide) rfl ?_
  refine st_lesS (lv' := [some (.ref l0), none, some (.int l2), some (.int l3), some (.int l4), some (.int l5), some (.int l6), some (.int l7), some (.int (l8 - ((s0 * s1) / (100 : Int32)))), none, none]) ⟨Or.inr rfl, Or.inr rfl, Or.inr rfl, Or.inr rfl, Or.inr rfl, Or.inr rfl, Or.inr rfl, Or.inr rfl, Or.inr rfl, Or.inr rfl, Or.inl rfl, trivial⟩ ?_
  exact T_X12_comesOut_165 hd hk68 hq
def D_X12_comesOut_68 (N : Nat) : Nat → mh_H → Nat → Int32 → Int32 → Int32 → Int32 → Int32 → Int32 → Option mh_H
  | 0, _, _, _, _, _, _, _, _ => none
  | F + 1, h, l0, l2, l3, l4, l5, l6, l7 =>
    if (5 : Int32) ≤ l7 then (some h)
    else ((gR h 12 l0 0).bind fun v1 =>
    (aI h v1 (l6 + l7)).bind fun v2 =>
    (gR h 12 l0 0).bind fun v3 =>
    (uI h v3 (l6 + l7) (0 : Int32)).bind fun h4 =>
    if l7 ≤ 0 then (D_X12_comesOut_165 N (D_X12_comesOut_68 N F) h4 l0 l2 l3 l4 l5 l6 l7 v2)
    else ((gR h4 12 l0 0).bind fun v5 =>
    (aI h4 v5 (((10 : Int32) + l7) - (1 : Int32))).bind fun v6 =>
    if (100 : Int32) ≤ (v6 * l3) then (D_X12_comesOut_134 N (D_X12_comesOut_68 N F) h4 l0 l2 l3 l4 l5 l6 l7 v2 v2 (100 : Int32))
    else (D_X12_comesOut_134 N (D_X12_comesOut_68 N F) h4 l0 l2 l3 l4 l5 l6 l7 v2 v2 (v6 * l3))))
set_option maxHeartbeats 4000000 in
set_option maxRecDepth 100000 in
theorem T_X12_comesOut_68 {P : mh_E → Prop} {N d : Nat} (hd : 4 ≤ d) {z : mh_H} : ∀ (F : Nat) (h : mh_H) (l0 : Nat) (l2 : Int32) (l3 : Int32) (l4 : Int32) (l5 : Int32) (l6 : Int32) (l7 : Int32), D_X12_comesOut_68 N F h l0 l2 l3 l4 l5 l6 l7 = some z → mh_go P d mX12_comesOut 68 [some (.ref l0), none, some (.int l2), some (.int l3), some (.int l4), some (.int l5), some (.int l6), some (.int l7), none, none, none] [] h none z := by
  intro F
  induction F with
  | zero => intro h l0 l2 l3 l4 l5 l6 l7 hq; rw [D_X12_comesOut_68] at hq; cases hq
  | succ F ih =>
    intro h l0 l2 l3 l4 l5 l6 l7 hq
    rw [D_X12_comesOut_68] at hq
    refine st_iload (pc := 68) dX12_comesOut_68 rfl ?_
    refine st_iconst (pc := 70) (v := (5 : Int32)) dX12_comesOut_70 rfl ?_
    refine bd_icmp_ge (pc := 71) (tgt := 283) hq dX12_comesOut_71 (by decide) (fun _ hq => ?_) (fun _ hq => ?_)
    ·
      exact bd_vret (pc := 283) hq dX12_comesOut_283 rfl
    ·
      refine st_aload_n (pc := 74) dX12_comesOut_74 rfl ?_
      refine bd_getr (pc := 75) hq dX12_comesOut_75 fl_12_9_12 rfl (fun v1 hq => ?_)
      refine st_iload (pc := 78) dX12_comesOut_78 rfl ?_
      refine st_iload (pc := 80) dX12_comesOut_80 rfl ?_
      refine st_iadd (pc := 82) dX12_comesOut_82 ?_
      refine bd_iald (pc := 83) hq dX12_comesOut_83 (fun v2 hq => ?_)
      refine st_istore (pc := 84) (lv' := [some (.ref l0), none, some (.int l2), some (.int l3), some (.int l4), some (.int l5), some (.int l6), some (.int l7), some (.int v2), none, none]) dX12_comesOut_84 rfl (by decide) rfl ?_
      refine st_aload_n (pc := 86) dX12_comesOut_86 rfl ?_
      refine bd_getr (pc := 87) hq dX12_comesOut_87 fl_12_9_12 rfl (fun v3 hq => ?_)
      refine st_iload (pc := 90) dX12_comesOut_90 rfl ?_
      refine st_iload (pc := 92) dX12_comesOut_92 rfl ?_
      refine st_iadd (pc := 94) dX12_comesOut_94 ?_
      refine st_iconst (pc := 95) (v := (0 : Int32)) dX12_comesOut_95 rfl ?_
      refine bd_iast (pc := 96) hq dX12_comesOut_96 (fun h4 hq => ?_)
      refine st_iload (pc := 97) dX12_comesOut_97 rfl ?_
      refine bd_if_le (pc := 99) (tgt := 165) hq dX12_comesOut_99 (by decide) (fun _ hq => ?_) (fun _ hq => ?_)
      ·
        exact T_X12_comesOut_165 hd ih hq
      ·
        refine st_aload_n (pc := 102) dX12_comesOut_102 rfl ?_
        refine bd_getr (pc := 103) hq dX12_comesOut_103 fl_12_9_12 rfl (fun v5 hq => ?_)
        refine st_bipush (pc := 106) (v := (10 : Int32)) dX12_comesOut_106 (by decide) ?_
        refine st_iload (pc := 108) dX12_comesOut_108 rfl ?_
        refine st_iadd (pc := 110) dX12_comesOut_110 ?_
        refine st_iconst (pc := 111) (v := (1 : Int32)) dX12_comesOut_111 rfl ?_
        refine st_isub (pc := 112) dX12_comesOut_112 ?_
        refine bd_iald (pc := 113) hq dX12_comesOut_113 (fun v6 hq => ?_)
        refine st_iload_n (pc := 114) dX12_comesOut_114 rfl ?_
        refine st_imul (pc := 115) dX12_comesOut_115 ?_
        refine st_istore (pc := 116) (lv' := [some (.ref l0), none, some (.int l2), some (.int l3), some (.int l4), some (.int l5), some (.int l6), some (.int l7), some (.int v2), some (.int (v6 * l3)), none]) dX12_comesOut_116 rfl (by decide) rfl ?_
        refine st_iload (pc := 118) dX12_comesOut_118 rfl ?_
        refine st_iload (pc := 120) dX12_comesOut_120 rfl ?_
        refine st_bipush (pc := 122) (v := (100 : Int32)) dX12_comesOut_122 (by decide) ?_
        refine bd_icmp_ge (pc := 124) (tgt := 132) hq dX12_comesOut_124 (by decide) (fun _ hq => ?_) (fun _ hq => ?_)
        ·
          refine st_bipush (pc := 132) (v := (100 : Int32)) dX12_comesOut_132 (by decide) ?_
          refine st_lesS (lv' := [some (.ref l0), none, some (.int l2), some (.int l3), some (.int l4), some (.int l5), some (.int l6), some (.int l7), some (.int v2), none, none]) ⟨Or.inr rfl, Or.inr rfl, Or.inr rfl, Or.inr rfl, Or.inr rfl, Or.inr rfl, Or.inr rfl, Or.inr rfl, Or.inr rfl, Or.inl rfl, Or.inr rfl, trivial⟩ ?_
          exact T_X12_comesOut_134 hd ih hq
        ·
          refine st_iload (pc := 127) dX12_comesOut_127 rfl ?_
          refine st_goto (pc := 129) (tgt := 134) dX12_comesOut_129 (by decide) ?_
          refine st_lesS (lv' := [some (.ref l0), none, some (.int l2), some (.int l3), some (.int l4), some (.int l5), some (.int l6), some (.int l7), some (.int v2), none, none]) ⟨Or.inr rfl, Or.inr rfl, Or.inr rfl, Or.inr rfl, Or.inr rfl, Or.inr rfl, Or.inr rfl, Or.inr rfl, Or.inr rfl, Or.inl rfl, Or.inr rfl, trivial⟩ ?_
          exact T_X12_comesOut_134 hd ih hq
def D_X12_comesOut_39 (N : Nat) (h : mh_H) (l0 : Nat) (l2 : Int32) (l3 : Int32) (l4 : Int32) (s0 : Int32) : Option mh_H :=
  (gR h 12 l0 0).bind fun v1 =>
  (aI h v1 (0 : Int32)).bind fun v2 =>
  dN (41 : Int32) <|
  mh_let ((l2 + (10 : Int32)) + ((5 : Int32) * (((v2 - l3) + (410 : Int32)) - ((v2 - l3) + (410 : Int32)) / (41 : Int32) * (41 : Int32)))) fun v3 =>
  D_X12_comesOut_68 N N h l0 l2 l3 l4 s0 v3 (0 : Int32)
set_option maxHeartbeats 4000000 in
set_option maxRecDepth 100000 in
theorem T_X12_comesOut_39 {P : mh_E → Prop} {N d : Nat} (hd : 4 ≤ d) {z : mh_H} {h : mh_H} {l0 : Nat} {l2 : Int32} {l3 : Int32} {l4 : Int32} {s0 : Int32} (hq : D_X12_comesOut_39 N h l0 l2 l3 l4 s0 = some z) : mh_go P d mX12_comesOut 39 [some (.ref l0), none, some (.int l2), some (.int l3), some (.int l4), none, none, none, none, none, none] [.int s0] h none z := by
  unfold D_X12_comesOut_39 at hq
  refine st_istore (pc := 39) (lv' := [some (.ref l0), none, some (.int l2), some (.int l3), some (.int l4), some (.int s0), none, none, none, none, none]) dX12_comesOut_39 rfl (by decide) rfl ?_
  refine st_iload_n (pc := 41) dX12_comesOut_41 rfl ?_
  refine st_bipush (pc := 42) (v := (10 : Int32)) dX12_comesOut_42 (by decide) ?_
  refine st_iadd (pc := 44) dX12_comesOut_44 ?_
  refine st_iconst (pc := 45) (v := (5 : Int32)) dX12_comesOut_45 rfl ?_
  refine st_aload_n (pc := 46) dX12_comesOut_46 rfl ?_
  refine bd_getr (pc := 47) hq dX12_comesOut_47 fl_12_9_12 rfl (fun v1 hq => ?_)
  refine st_iconst (pc := 50) (v := (0 : Int32)) dX12_comesOut_50 rfl ?_
  refine bd_iald (pc := 51) hq dX12_comesOut_51 (fun v2 hq => ?_)
  refine st_iload_n (pc := 52) dX12_comesOut_52 rfl ?_
  refine st_isub (pc := 53) dX12_comesOut_53 ?_
  refine st_sipush (pc := 54) (v := (410 : Int32)) dX12_comesOut_54 (by decide) ?_
  refine st_iadd (pc := 57) dX12_comesOut_57 ?_
  refine st_bipush (pc := 58) (v := (41 : Int32)) dX12_comesOut_58 (by decide) ?_
  refine bd_irem (pc := 60) hq dX12_comesOut_60 (fun hq => ?_)
  refine st_imul (pc := 61) dX12_comesOut_61 ?_
  refine st_iadd (pc := 62) dX12_comesOut_62 ?_
  refine bd_leti hq (fun v3 hq => ?_)
  refine st_istore (pc := 63) (lv' := [some (.ref l0), none, some (.int l2), some (.int l3), some (.int l4), some (.int s0), some (.int v3), none, none, none, none]) dX12_comesOut_63 rfl (by decide) rfl ?_
  refine st_iconst (pc := 65) (v := (0 : Int32)) dX12_comesOut_65 rfl ?_
  refine st_istore (pc := 66) (lv' := [some (.ref l0), none, some (.int l2), some (.int l3), some (.int l4), some (.int s0), some (.int v3), some (.int (0 : Int32)), none, none, none]) dX12_comesOut_66 rfl (by decide) rfl ?_
  exact T_X12_comesOut_68 hd N _ _ _ _ _ _ _ _ hq
def D_X12_comesOut (N : Nat) (h : mh_H) (l0 : Nat) (l1 : Int32) : Option mh_H :=
  (D_X12_way N h l1).bind fun q1 =>
  kO q1.2 12 l0 <|
  (D_X12_takes N q1.2 l0 l1).bind fun q2 =>
  (gR q2.2 12 l0 0).bind fun v3 =>
  (aI q2.2 v3 (q1.1 + (2 : Int32))).bind fun v4 =>
  (D_X12_joint N q2.2 v4).bind fun q5 =>
  (gR q5.2 12 l0 0).bind fun v6 =>
  (aI q5.2 v6 q1.1).bind fun v7 =>
  if v7 = (4 : Int32) then (D_X12_comesOut_39 N q5.2 l0 q1.1 q2.1 q5.1 (1 : Int32))
  else (D_X12_comesOut_39 N q5.2 l0 q1.1 q2.1 q5.1 (0 : Int32))
set_option maxHeartbeats 4000000 in
set_option maxRecDepth 100000 in
theorem T_X12_comesOut {P : mh_E → Prop} {N d : Nat} (hd : 4 ≤ d) {z : mh_H} {h : mh_H} {l0 : Nat} {l1 : Int32} (hq : D_X12_comesOut N h l0 l1 = some z) : mh_go P d mX12_comesOut 0 [some (.ref l0), some (.int l1), none, none, none, none, none, none, none, none, none] [] h none z := by
  unfold D_X12_comesOut at hq
  refine st_iload_n (pc := 0) dX12_comesOut_0 rfl ?_
  obtain ⟨q1, e1, hq⟩ := mh_ob hq
  refine st_invS (pc := 1) (Y := mX12_way) (vs := [.int l1]) (rest := []) (st2 := [.int q1.1]) dX12_comesOut_1 okX12_way wd_1309 wd_1310 pdX12_way rfl rfl rfl rfl (Nat.le_trans (by decide) hd) (Nat.le_of_ble_eq_true rfl) (T_X12_way (Nat.le_refl _) e1) rfl ?_
  refine st_istore_n (pc := 4) (lv' := [some (.ref l0), some (.int l1), some (.int q1.1), none, none, none, none, none, none, none, none]) dX12_comesOut_4 rfl (by decide) rfl ?_
  refine st_aload_n (pc := 5) dX12_comesOut_5 rfl ?_
  refine st_iload_n (pc := 6) dX12_comesOut_6 rfl ?_
  obtain ⟨⟨hbq2, hkq2⟩, hq⟩ := mh_oi hq
  obtain ⟨q2, e2, hq⟩ := mh_ob hq
  refine st_invV (pc := 7) (ci := 12) (vs := [.int l1]) (rest := []) (st2 := [.int q2.1]) dX12_comesOut_7 okX12_takes (by decide) hkq2 hbq2 wd_1326 wd_1328 wp_43 pdX12_takes rfl rfl rfl rfl (Nat.le_trans (by decide) hd) (Nat.le_of_ble_eq_true rfl) (T_X12_takes (Nat.le_refl _) e2) rfl ?_
  refine st_istore_n (pc := 10) (lv' := [some (.ref l0), some (.int l1), some (.int q1.1), some (.int q2.1), none, none, none, none, none, none, none]) dX12_comesOut_10 rfl (by decide) rfl ?_
  refine st_aload_n (pc := 11) dX12_comesOut_11 rfl ?_
  refine bd_getr (pc := 12) hq dX12_comesOut_12 fl_12_9_12 rfl (fun v3 hq => ?_)
  refine st_iload_n (pc := 15) dX12_comesOut_15 rfl ?_
  refine st_iconst (pc := 16) (v := (2 : Int32)) dX12_comesOut_16 rfl ?_
  refine st_iadd (pc := 17) dX12_comesOut_17 ?_
  refine bd_iald (pc := 18) hq dX12_comesOut_18 (fun v4 hq => ?_)
  obtain ⟨q5, e5, hq⟩ := mh_ob hq
  refine st_invS (pc := 19) (Y := mX12_joint) (vs := [.int v4]) (rest := []) (st2 := [.int q5.1]) dX12_comesOut_19 okX12_joint wd_1279 wd_1280 pdX12_joint rfl rfl rfl rfl (Nat.le_trans (by decide) hd) (Nat.le_of_ble_eq_true rfl) (T_X12_joint (Nat.le_refl _) e5) rfl ?_
  refine st_istore (pc := 22) (lv' := [some (.ref l0), some (.int l1), some (.int q1.1), some (.int q2.1), some (.int q5.1), none, none, none, none, none, none]) dX12_comesOut_22 rfl (by decide) rfl ?_
  refine st_aload_n (pc := 24) dX12_comesOut_24 rfl ?_
  refine bd_getr (pc := 25) hq dX12_comesOut_25 fl_12_9_12 rfl (fun v6 hq => ?_)
  refine st_iload_n (pc := 28) dX12_comesOut_28 rfl ?_
  refine bd_iald (pc := 29) hq dX12_comesOut_29 (fun v7 hq => ?_)
  refine st_iconst (pc := 30) (v := (4 : Int32)) dX12_comesOut_30 rfl ?_
  refine bd_icmp_ne (pc := 31) (tgt := 38) hq dX12_comesOut_31 (by decide) (fun _ hq => ?_) (fun _ hq => ?_)
  ·
    refine st_iconst (pc := 34) (v := (1 : Int32)) dX12_comesOut_34 rfl ?_
    refine st_goto (pc := 35) (tgt := 39) dX12_comesOut_35 (by decide) ?_
    refine st_lesS (lv' := [some (.ref l0), none, some (.int q1.1), some (.int q2.1), some (.int q5.1), none, none, none, none, none, none]) ⟨Or.inr rfl, Or.inl rfl, Or.inr rfl, Or.inr rfl, Or.inr rfl, Or.inr rfl, Or.inr rfl, Or.inr rfl, Or.inr rfl, Or.inr rfl, Or.inr rfl, trivial⟩ ?_
    exact T_X12_comesOut_39 hd hq
  ·
    refine st_iconst (pc := 38) (v := (0 : Int32)) dX12_comesOut_38 rfl ?_
    refine st_lesS (lv' := [some (.ref l0), none, some (.int q1.1), some (.int q2.1), some (.int q5.1), none, none, none, none, none, none]) ⟨Or.inr rfl, Or.inl rfl, Or.inr rfl, Or.inr rfl, Or.inr rfl, Or.inr rfl, Or.inr rfl, Or.inr rfl, Or.inr rfl, Or.inr rfl, Or.inr rfl, trivial⟩ ?_
    exact T_X12_comesOut_39 hd hq
-- HoleWaterModel.rises(I)V
theorem dX12_rises_124 : decode cX12_rises 124 = .ok (.invokestatic 123, 3) := by decide +kernel
theorem dX12_rises_127 : decode cX12_rises 127 = .ok (.dup2, 1) := by decide +kernel
theorem dX12_rises_128 : decode cX12_rises 128 = .ok (.iaload, 1) := by decide +kernel
theorem dX12_rises_129 : decode cX12_rises 129 = .ok (.iload 5, 2) := by decide +kernel
theorem dX12_rises_131 : decode cX12_rises 131 = .ok (.iadd, 1) := by decide +kernel
theorem dX12_rises_132 : decode cX12_rises 132 = .ok (.iastore, 1) := by decide +kernel
theorem dX12_rises_133 : decode cX12_rises 133 = .ok (.aload_n 0, 1) := by decide +kernel
theorem dX12_rises_134 : decode cX12_rises 134 = .ok (.getfield 9, 3) := by decide +kernel
theorem dX12_rises_137 : decode cX12_rises 137 = .ok (.iload_n 2, 1) := by decide +kernel
theorem dX12_rises_138 : decode cX12_rises 138 = .ok (.bipush 7, 2) := by decide +kernel
theorem dX12_rises_140 : decode cX12_rises 140 = .ok (.iadd, 1) := by decide +kernel
theorem dX12_rises_141 : decode cX12_rises 141 = .ok (.iload 4, 2) := by decide +kernel
theorem dX12_rises_143 : decode cX12_rises 143 = .ok (.iadd, 1) := by decide +kernel
theorem dX12_rises_144 : decode cX12_rises 144 = .ok (.iconst 0, 1) := by decide +kernel
theorem dX12_rises_145 : decode cX12_rises 145 = .ok (.iastore, 1) := by decide +kernel
theorem dX12_rises_146 : decode cX12_rises 146 = .ok (.iinc 4 1, 3) := by decide +kernel
theorem dX12_rises_149 : decode cX12_rises 149 = .ok (.goto (-76), 3) := by decide +kernel
theorem dX12_rises_73 : decode cX12_rises 73 = .ok (.iload 4, 2) := by decide +kernel
theorem dX12_rises_75 : decode cX12_rises 75 = .ok (.iconst 4, 1) := by decide +kernel
theorem dX12_rises_76 : decode cX12_rises 76 = .ok (.if_icmp .ge 76, 3) := by decide +kernel
theorem dX12_rises_152 : decode cX12_rises 152 = .ok (.return_, 1) := by decide +kernel
theorem dX12_rises_79 : decode cX12_rises 79 = .ok (.aload_n 0, 1) := by decide +kernel
theorem dX12_rises_80 : decode cX12_rises 80 = .ok (.getfield 9, 3) := by decide +kernel
theorem dX12_rises_83 : decode cX12_rises 83 = .ok (.iload_n 2, 1) := by decide +kernel
theorem dX12_rises_84 : decode cX12_rises 84 = .ok (.bipush 7, 2) := by decide +kernel
theorem dX12_rises_86 : decode cX12_rises 86 = .ok (.iadd, 1) := by decide +kernel
theorem dX12_rises_87 : decode cX12_rises 87 = .ok (.iload 4, 2) := by decide +kernel
theorem dX12_rises_89 : decode cX12_rises 89 = .ok (.iadd, 1) := by decide +kernel
theorem dX12_rises_90 : decode cX12_rises 90 = .ok (.iaload, 1) := by decide +kernel
theorem dX12_rises_91 : decode cX12_rises 91 = .ok (.istore 5, 2) := by decide +kernel
theorem dX12_rises_93 : decode cX12_rises 93 = .ok (.aload_n 0, 1) := by decide +kernel
theorem dX12_rises_94 : decode cX12_rises 94 = .ok (.getfield 9, 3) := by decide +kernel
theorem dX12_rises_97 : decode cX12_rises 97 = .ok (.iload_n 3, 1) := by decide +kernel
theorem dX12_rises_98 : decode cX12_rises 98 = .ok (.iload 4, 2) := by decide +kernel
theorem dX12_rises_100 : decode cX12_rises 100 = .ok (.iadd, 1) := by decide +kernel
theorem dX12_rises_101 : decode cX12_rises 101 = .ok (.iload 5, 2) := by decide +kernel
theorem dX12_rises_103 : decode cX12_rises 103 = .ok (.iastore, 1) := by decide +kernel
theorem dX12_rises_104 : decode cX12_rises 104 = .ok (.aload_n 0, 1) := by decide +kernel
theorem dX12_rises_105 : decode cX12_rises 105 = .ok (.getfield 9, 3) := by decide +kernel
theorem dX12_rises_108 : decode cX12_rises 108 = .ok (.iload 4, 2) := by decide +kernel
theorem dX12_rises_110 : decode cX12_rises 110 = .ok (.aload_n 0, 1) := by decide +kernel
theorem dX12_rises_111 : decode cX12_rises 111 = .ok (.iload_n 1, 1) := by decide +kernel
theorem dX12_rises_112 : decode cX12_rises 112 = .ok (.invokevirtual 126, 3) := by decide +kernel
theorem dX12_rises_115 : decode cX12_rises 115 = .ok (.ifCond .eq 7, 3) := by decide +kernel
theorem dX12_rises_122 : decode cX12_rises 122 = .ok (.bipush 6, 2) := by decide +kernel
theorem dX12_rises_118 : decode cX12_rises 118 = .ok (.iconst 5, 1) := by decide +kernel
theorem dX12_rises_119 : decode cX12_rises 119 = .ok (.goto 5, 3) := by decide +kernel
theorem dX12_rises_0 : decode cX12_rises 0 = .ok (.iload_n 1, 1) := by decide +kernel
theorem dX12_rises_1 : decode cX12_rises 1 = .ok (.invokestatic 71, 3) := by decide +kernel
theorem dX12_rises_4 : decode cX12_rises 4 = .ok (.istore_n 2, 1) := by decide +kernel
theorem dX12_rises_5 : decode cX12_rises 5 = .ok (.sipush 5380, 3) := by decide +kernel
theorem dX12_rises_8 : decode cX12_rises 8 = .ok (.iconst 4, 1) := by decide +kernel
theorem dX12_rises_9 : decode cX12_rises 9 = .ok (.bipush 24, 2) := by decide +kernel
theorem dX12_rises_11 : decode cX12_rises 11 = .ok (.iload_n 1, 1) := by decide +kernel
theorem dX12_rises_12 : decode cX12_rises 12 = .ok (.imul, 1) := by decide +kernel
theorem dX12_rises_13 : decode cX12_rises 13 = .ok (.aload_n 0, 1) := by decide +kernel
theorem dX12_rises_14 : decode cX12_rises 14 = .ok (.getfield 9, 3) := by decide +kernel
theorem dX12_rises_17 : decode cX12_rises 17 = .ok (.iconst 0, 1) := by decide +kernel
theorem dX12_rises_18 : decode cX12_rises 18 = .ok (.iaload, 1) := by decide +kernel
theorem dX12_rises_19 : decode cX12_rises 19 = .ok (.bipush 24, 2) := by decide +kernel
theorem dX12_rises_21 : decode cX12_rises 21 = .ok (.irem, 1) := by decide +kernel
theorem dX12_rises_22 : decode cX12_rises 22 = .ok (.iadd, 1) := by decide +kernel
theorem dX12_rises_23 : decode cX12_rises 23 = .ok (.imul, 1) := by decide +kernel
theorem dX12_rises_24 : decode cX12_rises 24 = .ok (.iadd, 1) := by decide +kernel
theorem dX12_rises_25 : decode cX12_rises 25 = .ok (.istore_n 3, 1) := by decide +kernel
theorem dX12_rises_26 : decode cX12_rises 26 = .ok (.aload_n 0, 1) := by decide +kernel
theorem dX12_rises_27 : decode cX12_rises 27 = .ok (.getfield 9, 3) := by decide +kernel
theorem dX12_rises_30 : decode cX12_rises 30 = .ok (.iload_n 2, 1) := by decide +kernel
theorem dX12_rises_31 : decode cX12_rises 31 = .ok (.iconst 4, 1) := by decide +kernel
theorem dX12_rises_32 : decode cX12_rises 32 = .ok (.iadd, 1) := by decide +kernel
theorem dX12_rises_33 : decode cX12_rises 33 = .ok (.aload_n 0, 1) := by decide +kernel
theorem dX12_rises_34 : decode cX12_rises 34 = .ok (.getfield 9, 3) := by decide +kernel
theorem dX12_rises_37 : decode cX12_rises 37 = .ok (.iload_n 2, 1) := by decide +kernel
theorem dX12_rises_38 : decode cX12_rises 38 = .ok (.iconst 3, 1) := by decide +kernel
theorem dX12_rises_39 : decode cX12_rises 39 = .ok (.iadd, 1) := by decide +kernel
theorem dX12_rises_40 : decode cX12_rises 40 = .ok (.iaload, 1) := by decide +kernel
theorem dX12_rises_41 : decode cX12_rises 41 = .ok (.iastore, 1) := by decide +kernel
theorem dX12_rises_42 : decode cX12_rises 42 = .ok (.aload_n 0, 1) := by decide +kernel
theorem dX12_rises_43 : decode cX12_rises 43 = .ok (.getfield 9, 3) := by decide +kernel
theorem dX12_rises_46 : decode cX12_rises 46 = .ok (.iload_n 2, 1) := by decide +kernel
theorem dX12_rises_47 : decode cX12_rises 47 = .ok (.iconst 5, 1) := by decide +kernel
theorem dX12_rises_48 : decode cX12_rises 48 = .ok (.iadd, 1) := by decide +kernel
theorem dX12_rises_49 : decode cX12_rises 49 = .ok (.dup2, 1) := by decide +kernel
theorem dX12_rises_50 : decode cX12_rises 50 = .ok (.iaload, 1) := by decide +kernel
theorem dX12_rises_51 : decode cX12_rises 51 = .ok (.aload_n 0, 1) := by decide +kernel
theorem dX12_rises_52 : decode cX12_rises 52 = .ok (.getfield 9, 3) := by decide +kernel
theorem dX12_rises_55 : decode cX12_rises 55 = .ok (.iload_n 2, 1) := by decide +kernel
theorem dX12_rises_56 : decode cX12_rises 56 = .ok (.iconst 3, 1) := by decide +kernel
theorem dX12_rises_57 : decode cX12_rises 57 = .ok (.iadd, 1) := by decide +kernel
theorem dX12_rises_58 : decode cX12_rises 58 = .ok (.iaload, 1) := by decide +kernel
theorem dX12_rises_59 : decode cX12_rises 59 = .ok (.iadd, 1) := by decide +kernel
theorem dX12_rises_60 : decode cX12_rises 60 = .ok (.iastore, 1) := by decide +kernel
theorem dX12_rises_61 : decode cX12_rises 61 = .ok (.aload_n 0, 1) := by decide +kernel
theorem dX12_rises_62 : decode cX12_rises 62 = .ok (.getfield 9, 3) := by decide +kernel
theorem dX12_rises_65 : decode cX12_rises 65 = .ok (.iload_n 2, 1) := by decide +kernel
theorem dX12_rises_66 : decode cX12_rises 66 = .ok (.iconst 3, 1) := by decide +kernel
theorem dX12_rises_67 : decode cX12_rises 67 = .ok (.iadd, 1) := by decide +kernel
theorem dX12_rises_68 : decode cX12_rises 68 = .ok (.iconst 0, 1) := by decide +kernel
theorem dX12_rises_69 : decode cX12_rises 69 = .ok (.iastore, 1) := by decide +kernel
theorem dX12_rises_70 : decode cX12_rises 70 = .ok (.iconst 0, 1) := by decide +kernel
theorem dX12_rises_71 : decode cX12_rises 71 = .ok (.istore 4, 2) := by decide +kernel
def D_X12_rises_124 (N : Nat) (k73 : mh_H → Nat → Int32 → Int32 → Int32 → Int32 → Option mh_H) (h : mh_H) (l0 : Nat) (l1 : Int32) (l2 : Int32) (l3 : Int32) (l4 : Int32) (l5 : Int32) (s0 : Nat) (s1 : Int32) (s2 : Int32) : Option mh_H :=
  (D_X12_stuffAt N h s1 s2).bind fun q1 =>
  (aI q1.2 s0 q1.1).bind fun v2 =>
  (uI q1.2 s0 q1.1 (v2 + l5)).bind fun h3 =>
  (gR h3 12 l0 0).bind fun v4 =>
  (uI h3 v4 ((l2 + (7 : Int32)) + l4) (0 : Int32)).bind fun h5 =>
  k73 h5 l0 l1 l2 l3 (l4 + Int32.ofInt (1))
set_option maxHeartbeats 4000000 in
set_option maxRecDepth 100000 in
theorem T_X12_rises_124 {P : mh_E → Prop} {N d : Nat} (hd : 4 ≤ d) {z : mh_H} {k73 : mh_H → Nat → Int32 → Int32 → Int32 → Int32 → Option mh_H} (hk73 : ∀ (h : mh_H) (l0 : Nat) (l1 : Int32) (l2 : Int32) (l3 : Int32) (l4 : Int32), k73 h l0 l1 l2 l3 l4 = some z → mh_go P d mX12_rises 73 [some (.ref l0), some (.int l1), some (.int l2), some (.int l3), some (.int l4), none] [] h none z) {h : mh_H} {l0 : Nat} {l1 : Int32} {l2 : Int32} {l3 : Int32} {l4 : Int32} {l5 : Int32} {s0 : Nat} {s1 : Int32} {s2 : Int32} (hq : D_X12_rises_124 N k73 h l0 l1 l2 l3 l4 l5 s0 s1 s2 = some z) : mh_go P d mX12_rises 124 [some (.ref l0), some (.int l1), some (.int l2), some (.int l3), some (.int l4), some (.int l5)] [.int s2, .int s1, .ref s0] h none z := by
  unfold D_X12_rises_124 at hq
  obtain ⟨q1, e1, hq⟩ := mh_ob hq
  refine st_invS (pc := 124) (Y := mX12_stuffAt) (vs := [.int s1, .int s2]) (rest := [.ref s0]) (st2 := [.int q1.1, .ref s0]) dX12_rises_124 okX12_stuffAt wd_1374 wd_1375 pdX12_stuffAt rfl rfl rfl rfl (Nat.le_trans (by decide) hd) (Nat.le_of_ble_eq_true rfl) (T_X12_stuffAt (Nat.le_refl _) e1) rfl ?_
  refine st_dup2 (pc := 127) dX12_rises_127 rfl rfl ?_
  refine bd_iald (pc := 128) hq dX12_rises_128 (fun v2 hq => ?_)
  refine st_iload (pc := 129) dX12_rises_129 rfl ?_
  refine st_iadd (pc := 131) dX12_rises_131 ?_
  refine bd_iast (pc := 132) hq dX12_rises_132 (fun h3 hq => ?_)
  refine st_aload_n (pc := 133) dX12_rises_133 rfl ?_
  refine bd_getr (pc := 134) hq dX12_rises_134 fl_12_9_12 rfl (fun v4 hq => ?_)
  refine st_iload_n (pc := 137) dX12_rises_137 rfl ?_
  refine st_bipush (pc := 138) (v := (7 : Int32)) dX12_rises_138 (by decide) ?_
  refine st_iadd (pc := 140) dX12_rises_140 ?_
  refine st_iload (pc := 141) dX12_rises_141 rfl ?_
  refine st_iadd (pc := 143) dX12_rises_143 ?_
  refine st_iconst (pc := 144) (v := (0 : Int32)) dX12_rises_144 rfl ?_
  refine bd_iast (pc := 145) hq dX12_rises_145 (fun h5 hq => ?_)
  refine st_iinc (pc := 146) (lv' := [some (.ref l0), some (.int l1), some (.int l2), some (.int l3), some (.int (l4 + Int32.ofInt (1))), some (.int l5)]) dX12_rises_146 rfl rfl (by decide) rfl ?_
  refine st_goto (pc := 149) (tgt := 73) dX12_rises_149 (by decide) ?_
  refine st_lesS (lv' := [some (.ref l0), some (.int l1), some (.int l2), some (.int l3), some (.int (l4 + Int32.ofInt (1))), none]) ⟨Or.inr rfl, Or.inr rfl, Or.inr rfl, Or.inr rfl, Or.inr rfl, Or.inl rfl, trivial⟩ ?_
  exact hk73 _ _ _ _ _ _ hq
def D_X12_rises_73 (N : Nat) : Nat → mh_H → Nat → Int32 → Int32 → Int32 → Int32 → Option mh_H
  | 0, _, _, _, _, _, _ => none
  | F + 1, h, l0, l1, l2, l3, l4 =>
    if (4 : Int32) ≤ l4 then (some h)
    else ((gR h 12 l0 0).bind fun v1 =>
    (aI h v1 ((l2 + (7 : Int32)) + l4)).bind fun v2 =>
    (gR h 12 l0 0).bind fun v3 =>
    (uI h v3 (l3 + l4) v2).bind fun h4 =>
    (gR h4 12 l0 0).bind fun v5 =>
    kO h4 12 l0 <|
    (D_X12_isSpring N h4 l0 l1).bind fun q6 =>
    if q6.1 = 0 then (D_X12_rises_124 N (D_X12_rises_73 N F) q6.2 l0 l1 l2 l3 l4 v2 v5 l4 (6 : Int32))
    else (D_X12_rises_124 N (D_X12_rises_73 N F) q6.2 l0 l1 l2 l3 l4 v2 v5 l4 (5 : Int32)))
set_option maxHeartbeats 4000000 in
set_option maxRecDepth 100000 in
theorem T_X12_rises_73 {P : mh_E → Prop} {N d : Nat} (hd : 4 ≤ d) {z : mh_H} : ∀ (F : Nat) (h : mh_H) (l0 : Nat) (l1 : Int32) (l2 : Int32) (l3 : Int32) (l4 : Int32), D_X12_rises_73 N F h l0 l1 l2 l3 l4 = some z → mh_go P d mX12_rises 73 [some (.ref l0), some (.int l1), some (.int l2), some (.int l3), some (.int l4), none] [] h none z := by
  intro F
  induction F with
  | zero => intro h l0 l1 l2 l3 l4 hq; rw [D_X12_rises_73] at hq; cases hq
  | succ F ih =>
    intro h l0 l1 l2 l3 l4 hq
    rw [D_X12_rises_73] at hq
    refine st_iload (pc := 73) dX12_rises_73 rfl ?_
    refine st_iconst (pc := 75) (v := (4 : Int32)) dX12_rises_75 rfl ?_
    refine bd_icmp_ge (pc := 76) (tgt := 152) hq dX12_rises_76 (by decide) (fun _ hq => ?_) (fun _ hq => ?_)
    ·
      exact bd_vret (pc := 152) hq dX12_rises_152 rfl
    ·
      refine st_aload_n (pc := 79) dX12_rises_79 rfl ?_
      refine bd_getr (pc := 80) hq dX12_rises_80 fl_12_9_12 rfl (fun v1 hq => ?_)
      refine st_iload_n (pc := 83) dX12_rises_83 rfl ?_
      refine st_bipush (pc := 84) (v := (7 : Int32)) dX12_rises_84 (by decide) ?_
      refine st_iadd (pc := 86) dX12_rises_86 ?_
      refine st_iload (pc := 87) dX12_rises_87 rfl ?_
      refine st_iadd (pc := 89) dX12_rises_89 ?_
      refine bd_iald (pc := 90) hq dX12_rises_90 (fun v2 hq => ?_)
      refine st_istore (pc := 91) (lv' := [some (.ref l0), some (.int l1), some (.int l2), some (.int l3), some (.int l4), some (.int v2)]) dX12_rises_91 rfl (by decide) rfl ?_
      refine st_aload_n (pc := 93) dX12_rises_93 rfl ?_
      refine bd_getr (pc := 94) hq dX12_rises_94 fl_12_9_12 rfl (fun v3 hq => ?_)
      refine st_iload_n (pc := 97) dX12_rises_97 rfl ?_
      refine st_iload (pc := 98) dX12_rises_98 rfl ?_
      refine st_iadd (pc := 100) dX12_rises_100 ?_
      refine st_iload (pc := 101) dX12_rises_101 rfl ?_
      refine bd_iast (pc := 103) hq dX12_rises_103 (fun h4 hq => ?_)
      refine st_aload_n (pc := 104) dX12_rises_104 rfl ?_
      refine bd_getr (pc := 105) hq dX12_rises_105 fl_12_9_12 rfl (fun v5 hq => ?_)
      refine st_iload (pc := 108) dX12_rises_108 rfl ?_
      refine st_aload_n (pc := 110) dX12_rises_110 rfl ?_
      refine st_iload_n (pc := 111) dX12_rises_111 rfl ?_
      obtain ⟨⟨hbq6, hkq6⟩, hq⟩ := mh_oi hq
      obtain ⟨q6, e6, hq⟩ := mh_ob hq
      refine st_invV (pc := 112) (ci := 12) (vs := [.int l1]) (rest := [.int l4, .ref v5]) (st2 := [.int q6.1, .int l4, .ref v5]) dX12_rises_112 okX12_isSpring (by decide) hkq6 hbq6 wd_1399 wd_1401 wp_52 pdX12_isSpring rfl rfl rfl rfl (Nat.le_trans (by decide) hd) (Nat.le_of_ble_eq_true rfl) (T_X12_isSpring (Nat.le_refl _) e6) rfl ?_
      refine bd_if_eq (pc := 115) (tgt := 122) hq dX12_rises_115 (by decide) (fun _ hq => ?_) (fun _ hq => ?_)
      ·
        refine st_bipush (pc := 122) (v := (6 : Int32)) dX12_rises_122 (by decide) ?_
        exact T_X12_rises_124 hd ih hq
      ·
        refine st_iconst (pc := 118) (v := (5 : Int32)) dX12_rises_118 rfl ?_
        refine st_goto (pc := 119) (tgt := 124) dX12_rises_119 (by decide) ?_
        exact T_X12_rises_124 hd ih hq
def D_X12_rises (N : Nat) (h : mh_H) (l0 : Nat) (l1 : Int32) : Option mh_H :=
  (D_X12_joint N h l1).bind fun q1 =>
  (gR q1.2 12 l0 0).bind fun v2 =>
  (aI q1.2 v2 (0 : Int32)).bind fun v3 =>
  dN (24 : Int32) <|
  mh_let ((5380 : Int32) + ((4 : Int32) * (((24 : Int32) * l1) + (v3 - v3 / (24 : Int32) * (24 : Int32))))) fun v4 =>
  (gR q1.2 12 l0 0).bind fun v5 =>
  (gR q1.2 12 l0 0).bind fun v6 =>
  (aI q1.2 v6 (q1.1 + (3 : Int32))).bind fun v7 =>
  (uI q1.2 v5 (q1.1 + (4 : Int32)) v7).bind fun h8 =>
  (gR h8 12 l0 0).bind fun v9 =>
  (aI h8 v9 (q1.1 + (5 : Int32))).bind fun v10 =>
  (gR h8 12 l0 0).bind fun v11 =>
  (aI h8 v11 (q1.1 + (3 : Int32))).bind fun v12 =>
  (uI h8 v9 (q1.1 + (5 : Int32)) (v10 + v12)).bind fun h13 =>
  (gR h13 12 l0 0).bind fun v14 =>
  (uI h13 v14 (q1.1 + (3 : Int32)) (0 : Int32)).bind fun h15 =>
  D_X12_rises_73 N N h15 l0 l1 q1.1 v4 (0 : Int32)
set_option maxHeartbeats 4000000 in
set_option maxRecDepth 100000 in
theorem T_X12_rises {P : mh_E → Prop} {N d : Nat} (hd : 4 ≤ d) {z : mh_H} {h : mh_H} {l0 : Nat} {l1 : Int32} (hq : D_X12_rises N h l0 l1 = some z) : mh_go P d mX12_rises 0 [some (.ref l0), some (.int l1), none, none, none, none] [] h none z := by
  unfold D_X12_rises at hq
  refine st_iload_n (pc := 0) dX12_rises_0 rfl ?_
  obtain ⟨q1, e1, hq⟩ := mh_ob hq
  refine st_invS (pc := 1) (Y := mX12_joint) (vs := [.int l1]) (rest := []) (st2 := [.int q1.1]) dX12_rises_1 okX12_joint wd_1279 wd_1280 pdX12_joint rfl rfl rfl rfl (Nat.le_trans (by decide) hd) (Nat.le_of_ble_eq_true rfl) (T_X12_joint (Nat.le_refl _) e1) rfl ?_
  refine st_istore_n (pc := 4) (lv' := [some (.ref l0), some (.int l1), some (.int q1.1), none, none, none]) dX12_rises_4 rfl (by decide) rfl ?_
  refine st_sipush (pc := 5) (v := (5380 : Int32)) dX12_rises_5 (by decide) ?_
  refine st_iconst (pc := 8) (v := (4 : Int32)) dX12_rises_8 rfl ?_
  refine st_bipush (pc := 9) (v := (24 : Int32)) dX12_rises_9 (by decide) ?_
  refine st_iload_n (pc := 11) dX12_rises_11 rfl ?_
  refine st_imul (pc := 12) dX12_rises_12 ?_
  refine st_aload_n (pc := 13) dX12_rises_13 rfl ?_
  refine bd_getr (pc := 14) hq dX12_rises_14 fl_12_9_12 rfl (fun v2 hq => ?_)
  refine st_iconst (pc := 17) (v := (0 : Int32)) dX12_rises_17 rfl ?_
  refine bd_iald (pc := 18) hq dX12_rises_18 (fun v3 hq => ?_)
  refine st_bipush (pc := 19) (v := (24 : Int32)) dX12_rises_19 (by decide) ?_
  refine bd_irem (pc := 21) hq dX12_rises_21 (fun hq => ?_)
  refine st_iadd (pc := 22) dX12_rises_22 ?_
  refine st_imul (pc := 23) dX12_rises_23 ?_
  refine st_iadd (pc := 24) dX12_rises_24 ?_
  refine bd_leti hq (fun v4 hq => ?_)
  refine st_istore_n (pc := 25) (lv' := [some (.ref l0), some (.int l1), some (.int q1.1), some (.int v4), none, none]) dX12_rises_25 rfl (by decide) rfl ?_
  refine st_aload_n (pc := 26) dX12_rises_26 rfl ?_
  refine bd_getr (pc := 27) hq dX12_rises_27 fl_12_9_12 rfl (fun v5 hq => ?_)
  refine st_iload_n (pc := 30) dX12_rises_30 rfl ?_
  refine st_iconst (pc := 31) (v := (4 : Int32)) dX12_rises_31 rfl ?_
  refine st_iadd (pc := 32) dX12_rises_32 ?_
  refine st_aload_n (pc := 33) dX12_rises_33 rfl ?_
  refine bd_getr (pc := 34) hq dX12_rises_34 fl_12_9_12 rfl (fun v6 hq => ?_)
  refine st_iload_n (pc := 37) dX12_rises_37 rfl ?_
  refine st_iconst (pc := 38) (v := (3 : Int32)) dX12_rises_38 rfl ?_
  refine st_iadd (pc := 39) dX12_rises_39 ?_
  refine bd_iald (pc := 40) hq dX12_rises_40 (fun v7 hq => ?_)
  refine bd_iast (pc := 41) hq dX12_rises_41 (fun h8 hq => ?_)
  refine st_aload_n (pc := 42) dX12_rises_42 rfl ?_
  refine bd_getr (pc := 43) hq dX12_rises_43 fl_12_9_12 rfl (fun v9 hq => ?_)
  refine st_iload_n (pc := 46) dX12_rises_46 rfl ?_
  refine st_iconst (pc := 47) (v := (5 : Int32)) dX12_rises_47 rfl ?_
  refine st_iadd (pc := 48) dX12_rises_48 ?_
  refine st_dup2 (pc := 49) dX12_rises_49 rfl rfl ?_
  refine bd_iald (pc := 50) hq dX12_rises_50 (fun v10 hq => ?_)
  refine st_aload_n (pc := 51) dX12_rises_51 rfl ?_
  refine bd_getr (pc := 52) hq dX12_rises_52 fl_12_9_12 rfl (fun v11 hq => ?_)
  refine st_iload_n (pc := 55) dX12_rises_55 rfl ?_
  refine st_iconst (pc := 56) (v := (3 : Int32)) dX12_rises_56 rfl ?_
  refine st_iadd (pc := 57) dX12_rises_57 ?_
  refine bd_iald (pc := 58) hq dX12_rises_58 (fun v12 hq => ?_)
  refine st_iadd (pc := 59) dX12_rises_59 ?_
  refine bd_iast (pc := 60) hq dX12_rises_60 (fun h13 hq => ?_)
  refine st_aload_n (pc := 61) dX12_rises_61 rfl ?_
  refine bd_getr (pc := 62) hq dX12_rises_62 fl_12_9_12 rfl (fun v14 hq => ?_)
  refine st_iload_n (pc := 65) dX12_rises_65 rfl ?_
  refine st_iconst (pc := 66) (v := (3 : Int32)) dX12_rises_66 rfl ?_
  refine st_iadd (pc := 67) dX12_rises_67 ?_
  refine st_iconst (pc := 68) (v := (0 : Int32)) dX12_rises_68 rfl ?_
  refine bd_iast (pc := 69) hq dX12_rises_69 (fun h15 hq => ?_)
  refine st_iconst (pc := 70) (v := (0 : Int32)) dX12_rises_70 rfl ?_
  refine st_istore (pc := 71) (lv' := [some (.ref l0), some (.int l1), some (.int q1.1), some (.int v4), some (.int (0 : Int32)), none]) dX12_rises_71 rfl (by decide) rfl ?_
  exact T_X12_rises_73 hd N _ _ _ _ _ _ hq
-- HoleWaterModel.isFrom(II)Z
theorem dX12_isFrom_0 : decode cX12_isFrom 0 = .ok (.aload_n 0, 1) := by decide +kernel
theorem dX12_isFrom_1 : decode cX12_isFrom 1 = .ok (.getfield 9, 3) := by decide +kernel
theorem dX12_isFrom_4 : decode cX12_isFrom 4 = .ok (.iload_n 1, 1) := by decide +kernel
theorem dX12_isFrom_5 : decode cX12_isFrom 5 = .ok (.invokestatic 99, 3) := by decide +kernel
theorem dX12_isFrom_8 : decode cX12_isFrom 8 = .ok (.iconst 1, 1) := by decide +kernel
theorem dX12_isFrom_9 : decode cX12_isFrom 9 = .ok (.iadd, 1) := by decide +kernel
theorem dX12_isFrom_10 : decode cX12_isFrom 10 = .ok (.iaload, 1) := by decide +kernel
theorem dX12_isFrom_11 : decode cX12_isFrom 11 = .ok (.iload_n 2, 1) := by decide +kernel
theorem dX12_isFrom_12 : decode cX12_isFrom 12 = .ok (.if_icmp .ne 7, 3) := by decide +kernel
theorem dX12_isFrom_15 : decode cX12_isFrom 15 = .ok (.iconst 1, 1) := by decide +kernel
theorem dX12_isFrom_16 : decode cX12_isFrom 16 = .ok (.goto 4, 3) := by decide +kernel
theorem dX12_isFrom_20 : decode cX12_isFrom 20 = .ok (.ireturn, 1) := by decide +kernel
theorem dX12_isFrom_19 : decode cX12_isFrom 19 = .ok (.iconst 0, 1) := by decide +kernel
def D_X12_isFrom (N : Nat) (h : mh_H) (l0 : Nat) (l1 : Int32) (l2 : Int32) : Option (Int32 × mh_H) :=
  (gR h 12 l0 0).bind fun v1 =>
  (D_X12_way N h l1).bind fun q2 =>
  (aI q2.2 v1 (q2.1 + (1 : Int32))).bind fun v3 =>
  if v3 = l2 then (zB (1 : Int32) q2.2)
  else (zB (0 : Int32) q2.2)
set_option maxHeartbeats 4000000 in
set_option maxRecDepth 100000 in
theorem T_X12_isFrom {P : mh_E → Prop} {N d : Nat} (hd : 2 ≤ d) {z : (Int32 × mh_H)} {h : mh_H} {l0 : Nat} {l1 : Int32} {l2 : Int32} (hq : D_X12_isFrom N h l0 l1 l2 = some z) : mh_go P d mX12_isFrom 0 [some (.ref l0), some (.int l1), some (.int l2)] [] h (some (.int z.1)) z.2 := by
  unfold D_X12_isFrom at hq
  refine st_aload_n (pc := 0) dX12_isFrom_0 rfl ?_
  refine bd_getr (pc := 1) hq dX12_isFrom_1 fl_12_9_12 rfl (fun v1 hq => ?_)
  refine st_iload_n (pc := 4) dX12_isFrom_4 rfl ?_
  obtain ⟨q2, e2, hq⟩ := mh_ob hq
  refine st_invS (pc := 5) (Y := mX12_way) (vs := [.int l1]) (rest := [.ref v1]) (st2 := [.int q2.1, .ref v1]) dX12_isFrom_5 okX12_way wd_1309 wd_1310 pdX12_way rfl rfl rfl rfl (Nat.le_trans (by decide) hd) (Nat.le_of_ble_eq_true rfl) (T_X12_way (Nat.le_refl _) e2) rfl ?_
  refine st_iconst (pc := 8) (v := (1 : Int32)) dX12_isFrom_8 rfl ?_
  refine st_iadd (pc := 9) dX12_isFrom_9 ?_
  refine bd_iald (pc := 10) hq dX12_isFrom_10 (fun v3 hq => ?_)
  refine st_iload_n (pc := 11) dX12_isFrom_11 rfl ?_
  refine bd_icmp_ne (pc := 12) (tgt := 19) hq dX12_isFrom_12 (by decide) (fun _ hq => ?_) (fun _ hq => ?_)
  ·
    refine st_iconst (pc := 15) (v := (1 : Int32)) dX12_isFrom_15 rfl ?_
    refine st_goto (pc := 16) (tgt := 20) dX12_isFrom_16 (by decide) ?_
    exact bd_zret (pc := 20) hq dX12_isFrom_20 rfl
  ·
    refine st_iconst (pc := 19) (v := (0 : Int32)) dX12_isFrom_19 rfl ?_
    exact bd_zret (pc := 20) hq dX12_isFrom_20 rfl
-- HoleWaterModel.isOverflow(I)Z
theorem dX12_isOverflow_0 : decode cX12_isOverflow 0 = .ok (.aload_n 0, 1) := by decide +kernel
theorem dX12_isOverflow_1 : decode cX12_isOverflow 1 = .ok (.getfield 9, 3) := by decide +kernel
theorem dX12_isOverflow_4 : decode cX12_isOverflow 4 = .ok (.iload_n 1, 1) := by decide +kernel
theorem dX12_isOverflow_5 : decode cX12_isOverflow 5 = .ok (.invokestatic 99, 3) := by decide +kernel
theorem dX12_isOverflow_8 : decode cX12_isOverflow 8 = .ok (.iaload, 1) := by decide +kernel
theorem dX12_isOverflow_9 : decode cX12_isOverflow 9 = .ok (.iconst 3, 1) := by decide +kernel
theorem dX12_isOverflow_10 : decode cX12_isOverflow 10 = .ok (.if_icmp .ne 7, 3) := by decide +kernel
theorem dX12_isOverflow_13 : decode cX12_isOverflow 13 = .ok (.iconst 1, 1) := by decide +kernel
theorem dX12_isOverflow_14 : decode cX12_isOverflow 14 = .ok (.goto 4, 3) := by decide +kernel
theorem dX12_isOverflow_18 : decode cX12_isOverflow 18 = .ok (.ireturn, 1) := by decide +kernel
theorem dX12_isOverflow_17 : decode cX12_isOverflow 17 = .ok (.iconst 0, 1) := by decide +kernel
def D_X12_isOverflow (N : Nat) (h : mh_H) (l0 : Nat) (l1 : Int32) : Option (Int32 × mh_H) :=
  (gR h 12 l0 0).bind fun v1 =>
  (D_X12_way N h l1).bind fun q2 =>
  (aI q2.2 v1 q2.1).bind fun v3 =>
  if v3 = (3 : Int32) then (zB (1 : Int32) q2.2)
  else (zB (0 : Int32) q2.2)
set_option maxHeartbeats 4000000 in
set_option maxRecDepth 100000 in
theorem T_X12_isOverflow {P : mh_E → Prop} {N d : Nat} (hd : 2 ≤ d) {z : (Int32 × mh_H)} {h : mh_H} {l0 : Nat} {l1 : Int32} (hq : D_X12_isOverflow N h l0 l1 = some z) : mh_go P d mX12_isOverflow 0 [some (.ref l0), some (.int l1)] [] h (some (.int z.1)) z.2 := by
  unfold D_X12_isOverflow at hq
  refine st_aload_n (pc := 0) dX12_isOverflow_0 rfl ?_
  refine bd_getr (pc := 1) hq dX12_isOverflow_1 fl_12_9_12 rfl (fun v1 hq => ?_)
  refine st_iload_n (pc := 4) dX12_isOverflow_4 rfl ?_
  obtain ⟨q2, e2, hq⟩ := mh_ob hq
  refine st_invS (pc := 5) (Y := mX12_way) (vs := [.int l1]) (rest := [.ref v1]) (st2 := [.int q2.1, .ref v1]) dX12_isOverflow_5 okX12_way wd_1309 wd_1310 pdX12_way rfl rfl rfl rfl (Nat.le_trans (by decide) hd) (Nat.le_of_ble_eq_true rfl) (T_X12_way (Nat.le_refl _) e2) rfl ?_
  refine bd_iald (pc := 8) hq dX12_isOverflow_8 (fun v3 hq => ?_)
  refine st_iconst (pc := 9) (v := (3 : Int32)) dX12_isOverflow_9 rfl ?_
  refine bd_icmp_ne (pc := 10) (tgt := 17) hq dX12_isOverflow_10 (by decide) (fun _ hq => ?_) (fun _ hq => ?_)
  ·
    refine st_iconst (pc := 13) (v := (1 : Int32)) dX12_isOverflow_13 rfl ?_
    refine st_goto (pc := 14) (tgt := 18) dX12_isOverflow_14 (by decide) ?_
    exact bd_zret (pc := 18) hq dX12_isOverflow_18 rfl
  ·
    refine st_iconst (pc := 17) (v := (0 : Int32)) dX12_isOverflow_17 rfl ?_
    exact bd_zret (pc := 18) hq dX12_isOverflow_18 rfl
