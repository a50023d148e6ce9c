/-! one row an instruction -/
section MHS
variable {P : mh_E → Prop} {d : Nat} {M : mh_M} {pc : Nat} {lv : List (Option Value)} {rest : List Value} {h : mh_H} {r : Option Value} {h' : mh_H}
theorem mh_move {pc2 : Nat} {st st2 : List Value} (k : mh_go P d M pc2 lv st2 h r h')
    (f : ∀ (p : Program) (l : Launch) (e : Env) (R : Room) (s : State) (m : MethodId) (args : Array Value) (below : List Frame) (meth : Method) (c : Code) (H : Heap) (locs : List Loc) (cells slots : Nat) (ls : Array Slot) (E : mh_E) (Q : State → Prop), P E → mh_X M E p s m args meth c → lv_has ls M.2.2.1 (mh_as E lv) → mh_P E h H →
      W p l e R s m args below meth c H locs cells slots Q (F0 m pc2 ls (st2.map (mh_c E))) → W p l e R s m args below meth c H locs cells slots Q (F0 m pc ls (st.map (mh_c E)))) : mh_go P d M pc lv st h r h' :=
  ⟨k.1, fun p l e R s m args below meth c H locs cells slots ls E n0 z0 mc ms hPE hX hf hl hc hs hP hS hv hn e1 e2 e3 e4 => f p l e R s m args below meth c H locs cells slots ls E _ hPE hX hv hP (k.2 p l e R s m args below meth c H locs cells slots ls E n0 z0 mc ms hPE hX hf hl hc hs hP hS hv hn e1 e2 e3 e4)⟩
theorem mh_at {E : mh_E} {ls : Array Slot} {nL i : Nat} {v : Value} (hv : lv_has ls nL (mh_as E lv)) (hi : lv[i]? = some (some v)) : ls[i]? = some (.val (mh_c E v)) := hv.2.2 (i, mh_c E v) (mh_as_mem.mpr ⟨v, hi, rfl⟩)
theorem st_iconst {n : Int} {v : Int32} (hd : decode M.2.1 pc = .ok (.iconst n, 1)) (hq : Int32.ofInt n = v) (k : mh_go P d M (pc + 1) lv (.int v :: rest) h r h') : mh_go P d M pc lv (rest) h r h' :=
  mh_move k (fun p l e R s m args below meth c H locs cells slots ls E Q hPE hX hv hP w => lv_iconst hX.1 hX.2.1 hd hq w)
theorem st_bipush {n : Int} {v : Int32} (hd : decode M.2.1 pc = .ok (.bipush n, 2)) (hq : (Int8.ofInt n).toInt32 = v) (k : mh_go P d M (pc + 2) lv (.int v :: rest) h r h') : mh_go P d M pc lv (rest) h r h' :=
  mh_move k (fun p l e R s m args below meth c H locs cells slots ls E Q hPE hX hv hP w => lv_bipush hX.1 hX.2.1 hd hq w)
theorem st_sipush {n : Int} {v : Int32} (hd : decode M.2.1 pc = .ok (.sipush n, 3)) (hq : (Int16.ofInt n).toInt32 = v) (k : mh_go P d M (pc + 3) lv (.int v :: rest) h r h') : mh_go P d M pc lv (rest) h r h' :=
  mh_move k (fun p l e R s m args below meth c H locs cells slots ls E Q hPE hX hv hP w => lv_sipush hX.1 hX.2.1 hd hq w)
theorem st_lconst {n : Fin 2} {v : Int64} (hd : decode M.2.1 pc = .ok (.lconst n, 1)) (hq : Int64.ofNat (n : Nat) = v) (k : mh_go P d M (pc + 1) lv (.long v :: rest) h r h') : mh_go P d M pc lv (rest) h r h' :=
  mh_move k (fun p l e R s m args below meth c H locs cells slots ls E Q hPE hX hv hP w => lv_lconst hX.1 hX.2.1 hd hq w)
theorem st_iload_n {i : Fin 4} {x : Int32} (hd : decode M.2.1 pc = .ok (.iload_n i, 1)) (hi : lv[(i : Nat)]? = some (some (.int x))) (k : mh_go P d M (pc + 1) lv (.int x :: rest) h r h') : mh_go P d M pc lv (rest) h r h' :=
  mh_move k (fun p l e R s m args below meth c H locs cells slots ls E Q hPE hX hv hP w => lv_iload_n hX.1 hX.2.1 hd rfl (mh_at hv hi) w)
theorem st_iload {i : Nat} {x : Int32} (hd : decode M.2.1 pc = .ok (.iload i, 2)) (hi : lv[i]? = some (some (.int x))) (k : mh_go P d M (pc + 2) lv (.int x :: rest) h r h') : mh_go P d M pc lv (rest) h r h' :=
  mh_move k (fun p l e R s m args below meth c H locs cells slots ls E Q hPE hX hv hP w => lv_iload hX.1 hX.2.1 hd (mh_at hv hi) w)
theorem st_lload_n {i : Fin 4} {x : Int64} (hd : decode M.2.1 pc = .ok (.lload_n i, 1)) (hi : lv[(i : Nat)]? = some (some (.long x))) (k : mh_go P d M (pc + 1) lv (.long x :: rest) h r h') : mh_go P d M pc lv (rest) h r h' :=
  mh_move k (fun p l e R s m args below meth c H locs cells slots ls E Q hPE hX hv hP w => lv_lload_n hX.1 hX.2.1 hd rfl (mh_at hv hi) w)
theorem st_lload {i : Nat} {x : Int64} (hd : decode M.2.1 pc = .ok (.lload i, 2)) (hi : lv[i]? = some (some (.long x))) (k : mh_go P d M (pc + 2) lv (.long x :: rest) h r h') : mh_go P d M pc lv (rest) h r h' :=
  mh_move k (fun p l e R s m args below meth c H locs cells slots ls E Q hPE hX hv hP w => lv_lload hX.1 hX.2.1 hd (mh_at hv hi) w)
theorem st_aload_n {i : Fin 4} {x : Nat} (hd : decode M.2.1 pc = .ok (.aload_n i, 1)) (hi : lv[(i : Nat)]? = some (some (.ref x))) (k : mh_go P d M (pc + 1) lv (.ref x :: rest) h r h') : mh_go P d M pc lv (rest) h r h' :=
  mh_move k (fun p l e R s m args below meth c H locs cells slots ls E Q hPE hX hv hP w => lv_aload_n hX.1 hX.2.1 hd rfl (mh_at hv hi) w)
theorem st_aload {i : Nat} {x : Nat} (hd : decode M.2.1 pc = .ok (.aload i, 2)) (hi : lv[i]? = some (some (.ref x))) (k : mh_go P d M (pc + 2) lv (.ref x :: rest) h r h') : mh_go P d M pc lv (rest) h r h' :=
  mh_move k (fun p l e R s m args below meth c H locs cells slots ls E Q hPE hX hv hP w => lv_aload hX.1 hX.2.1 hd (mh_at hv hi) w)
theorem st_iadd {x y : Int32} (hd : decode M.2.1 pc = .ok (.iadd, 1))  (k : mh_go P d M (pc + 1) lv (.int (x + y) :: rest) h r h') : mh_go P d M pc lv (.int y :: .int x :: rest) h r h' :=
  mh_move k (fun p l e R s m args below meth c H locs cells slots ls E Q hPE hX hv hP w => lv_iadd hX.1 hX.2.1 hd w)
theorem st_isub {x y : Int32} (hd : decode M.2.1 pc = .ok (.isub, 1))  (k : mh_go P d M (pc + 1) lv (.int (x - y) :: rest) h r h') : mh_go P d M pc lv (.int y :: .int x :: rest) h r h' :=
  mh_move k (fun p l e R s m args below meth c H locs cells slots ls E Q hPE hX hv hP w => lv_isub hX.1 hX.2.1 hd w)
theorem st_imul {x y : Int32} (hd : decode M.2.1 pc = .ok (.imul, 1))  (k : mh_go P d M (pc + 1) lv (.int (x * y) :: rest) h r h') : mh_go P d M pc lv (.int y :: .int x :: rest) h r h' :=
  mh_move k (fun p l e R s m args below meth c H locs cells slots ls E Q hPE hX hv hP w => lv_imul hX.1 hX.2.1 hd w)
theorem st_iand {x y : Int32} (hd : decode M.2.1 pc = .ok (.iand, 1))  (k : mh_go P d M (pc + 1) lv (.int (x &&& y) :: rest) h r h') : mh_go P d M pc lv (.int y :: .int x :: rest) h r h' :=
  mh_move k (fun p l e R s m args below meth c H locs cells slots ls E Q hPE hX hv hP w => lv_iand hX.1 hX.2.1 hd w)
theorem st_ior {x y : Int32} (hd : decode M.2.1 pc = .ok (.ior, 1))  (k : mh_go P d M (pc + 1) lv (.int (x ||| y) :: rest) h r h') : mh_go P d M pc lv (.int y :: .int x :: rest) h r h' :=
  mh_move k (fun p l e R s m args below meth c H locs cells slots ls E Q hPE hX hv hP w => lv_ior hX.1 hX.2.1 hd w)
theorem st_ixor {x y : Int32} (hd : decode M.2.1 pc = .ok (.ixor, 1))  (k : mh_go P d M (pc + 1) lv (.int (x ^^^ y) :: rest) h r h') : mh_go P d M pc lv (.int y :: .int x :: rest) h r h' :=
  mh_move k (fun p l e R s m args below meth c H locs cells slots ls E Q hPE hX hv hP w => lv_ixor hX.1 hX.2.1 hd w)
theorem st_idiv {x y : Int32} (hd : decode M.2.1 pc = .ok (.idiv, 1)) (hq : ¬ y = 0) (k : mh_go P d M (pc + 1) lv (.int (x / y) :: rest) h r h') : mh_go P d M pc lv (.int y :: .int x :: rest) h r h' :=
  mh_move k (fun p l e R s m args below meth c H locs cells slots ls E Q hPE hX hv hP w => lv_idiv hX.1 hX.2.1 hd hq w)
theorem st_irem {x y : Int32} (hd : decode M.2.1 pc = .ok (.irem, 1)) (hq : ¬ y = 0) (k : mh_go P d M (pc + 1) lv (.int (x - x / y * y) :: rest) h r h') : mh_go P d M pc lv (.int y :: .int x :: rest) h r h' :=
  mh_move k (fun p l e R s m args below meth c H locs cells slots ls E Q hPE hX hv hP w => lv_irem hX.1 hX.2.1 hd hq w)
theorem st_ineg {x : Int32} (hd : decode M.2.1 pc = .ok (.ineg, 1))  (k : mh_go P d M (pc + 1) lv (.int (-x) :: rest) h r h') : mh_go P d M pc lv (.int x :: rest) h r h' :=
  mh_move k (fun p l e R s m args below meth c H locs cells slots ls E Q hPE hX hv hP w => lv_ineg hX.1 hX.2.1 hd w)
theorem st_lmul {x y : Int64} (hd : decode M.2.1 pc = .ok (.lmul, 1))  (k : mh_go P d M (pc + 1) lv (.long (x * y) :: rest) h r h') : mh_go P d M pc lv (.long y :: .long x :: rest) h r h' :=
  mh_move k (fun p l e R s m args below meth c H locs cells slots ls E Q hPE hX hv hP w => lv_lmul hX.1 hX.2.1 hd w)
theorem st_land {x y : Int64} (hd : decode M.2.1 pc = .ok (.land, 1))  (k : mh_go P d M (pc + 1) lv (.long (x &&& y) :: rest) h r h') : mh_go P d M pc lv (.long y :: .long x :: rest) h r h' :=
  mh_move k (fun p l e R s m args below meth c H locs cells slots ls E Q hPE hX hv hP w => lv_land hX.1 hX.2.1 hd w)
theorem st_lor {x y : Int64} (hd : decode M.2.1 pc = .ok (.lor, 1))  (k : mh_go P d M (pc + 1) lv (.long (x ||| y) :: rest) h r h') : mh_go P d M pc lv (.long y :: .long x :: rest) h r h' :=
  mh_move k (fun p l e R s m args below meth c H locs cells slots ls E Q hPE hX hv hP w => lv_lor hX.1 hX.2.1 hd w)
theorem st_ldiv {x y : Int64} (hd : decode M.2.1 pc = .ok (.ldiv, 1)) (hq : ¬ y = 0) (k : mh_go P d M (pc + 1) lv (.long (x / y) :: rest) h r h') : mh_go P d M pc lv (.long y :: .long x :: rest) h r h' :=
  mh_move k (fun p l e R s m args below meth c H locs cells slots ls E Q hPE hX hv hP w => lv_ldiv hX.1 hX.2.1 hd hq w)
theorem st_ishl {x y : Int32} (hd : decode M.2.1 pc = .ok (.ishl, 1))  (k : mh_go P d M (pc + 1) lv (.int (x <<< (y &&& 31)) :: rest) h r h') : mh_go P d M pc lv (.int y :: .int x :: rest) h r h' :=
  mh_move k (fun p l e R s m args below meth c H locs cells slots ls E Q hPE hX hv hP w => lv_ishl hX.1 hX.2.1 hd w)
theorem st_ishr {x y : Int32} (hd : decode M.2.1 pc = .ok (.ishr, 1))  (k : mh_go P d M (pc + 1) lv (.int (x >>> (y &&& 31)) :: rest) h r h') : mh_go P d M pc lv (.int y :: .int x :: rest) h r h' :=
  mh_move k (fun p l e R s m args below meth c H locs cells slots ls E Q hPE hX hv hP w => lv_ishr hX.1 hX.2.1 hd w)
theorem st_iushr {x y : Int32} (hd : decode M.2.1 pc = .ok (.iushr, 1))  (k : mh_go P d M (pc + 1) lv (.int (x.toUInt32 >>> (y.toUInt32 &&& Int32.toUInt32 31)).toInt32 :: rest) h r h') : mh_go P d M pc lv (.int y :: .int x :: rest) h r h' :=
  mh_move k (fun p l e R s m args below meth c H locs cells slots ls E Q hPE hX hv hP w => lv_iushr hX.1 hX.2.1 hd rfl w)
theorem st_lushr {x : Int64} {y : Int32} (hd : decode M.2.1 pc = .ok (.lushr, 1))  (k : mh_go P d M (pc + 1) lv (.long (x.toUInt64 >>> (y.toInt64.toUInt64 &&& Int64.toUInt64 63)).toInt64 :: rest) h r h') : mh_go P d M pc lv (.int y :: .long x :: rest) h r h' :=
  mh_move k (fun p l e R s m args below meth c H locs cells slots ls E Q hPE hX hv hP w => lv_lushr hX.1 hX.2.1 hd rfl w)
theorem st_lshl {x : Int64} {y : Int32} (hd : decode M.2.1 pc = .ok (.lshl, 1))  (k : mh_go P d M (pc + 1) lv (.long (x <<< (y.toInt64 &&& 63)) :: rest) h r h') : mh_go P d M pc lv (.int y :: .long x :: rest) h r h' :=
  mh_move k (fun p l e R s m args below meth c H locs cells slots ls E Q hPE hX hv hP w => lv_lshl hX.1 hX.2.1 hd rfl w)
theorem st_lshr {x : Int64} {y : Int32} (hd : decode M.2.1 pc = .ok (.lshr, 1))  (k : mh_go P d M (pc + 1) lv (.long (x >>> (y.toInt64 &&& 63)) :: rest) h r h') : mh_go P d M pc lv (.int y :: .long x :: rest) h r h' :=
  mh_move k (fun p l e R s m args below meth c H locs cells slots ls E Q hPE hX hv hP w => lv_lshr hX.1 hX.2.1 hd rfl w)
theorem st_i2l {x : Int32} (hd : decode M.2.1 pc = .ok (.i2l, 1))  (k : mh_go P d M (pc + 1) lv (.long x.toInt64 :: rest) h r h') : mh_go P d M pc lv (.int x :: rest) h r h' :=
  mh_move k (fun p l e R s m args below meth c H locs cells slots ls E Q hPE hX hv hP w => lv_i2l hX.1 hX.2.1 hd rfl w)
theorem st_l2i {x : Int64} (hd : decode M.2.1 pc = .ok (.l2i, 1))  (k : mh_go P d M (pc + 1) lv (.int x.toInt32 :: rest) h r h') : mh_go P d M pc lv (.long x :: rest) h r h' :=
  mh_move k (fun p l e R s m args below meth c H locs cells slots ls E Q hPE hX hv hP w => lv_l2i hX.1 hX.2.1 hd rfl w)
theorem st_i2b {x : Int32} (hd : decode M.2.1 pc = .ok (.i2b, 1))  (k : mh_go P d M (pc + 1) lv (.int x.toInt8.toInt32 :: rest) h r h') : mh_go P d M pc lv (.int x :: rest) h r h' :=
  mh_move k (fun p l e R s m args below meth c H locs cells slots ls E Q hPE hX hv hP w => lv_i2b hX.1 hX.2.1 hd rfl w)
theorem st_i2s {x : Int32} (hd : decode M.2.1 pc = .ok (.i2s, 1))  (k : mh_go P d M (pc + 1) lv (.int x.toInt16.toInt32 :: rest) h r h') : mh_go P d M pc lv (.int x :: rest) h r h' :=
  mh_move k (fun p l e R s m args below meth c H locs cells slots ls E Q hPE hX hv hP w => lv_i2s hX.1 hX.2.1 hd rfl w)
theorem st_i2c {x : Int32} (hd : decode M.2.1 pc = .ok (.i2c, 1))  (k : mh_go P d M (pc + 1) lv (.int (x.toUInt32 % 65536).toInt32 :: rest) h r h') : mh_go P d M pc lv (.int x :: rest) h r h' :=
  mh_move k (fun p l e R s m args below meth c H locs cells slots ls E Q hPE hX hv hP w => lv_i2c hX.1 hX.2.1 hd rfl w)
theorem st_lcmp {x y : Int64} (hd : decode M.2.1 pc = .ok (.lcmp, 1))  (k : mh_go P d M (pc + 1) lv (.int (lg_cmp x y) :: rest) h r h') : mh_go P d M pc lv (.long y :: .long x :: rest) h r h' :=
  mh_move k (fun p l e R s m args below meth c H locs cells slots ls E Q hPE hX hv hP w => W.lcmp hX.1 hX.2.1 hd w)
theorem st_dup {v : Value} (hd : decode M.2.1 pc = .ok (.dup, 1)) (hq : v.category = 1) (k : mh_go P d M (pc + 1) lv (v :: v :: rest) h r h') : mh_go P d M pc lv (v :: rest) h r h' :=
  mh_move k (fun p l e R s m args below meth c H locs cells slots ls E Q hPE hX hv hP w => lv_dup hX.1 hX.2.1 hd ((mh_c_cat E v).trans hq) w)
theorem st_dup2 {v u : Value} (hd : decode M.2.1 pc = .ok (.dup2, 1)) (hq : v.category = 1) (hq2 : u.category = 1) (k : mh_go P d M (pc + 1) lv (v :: u :: v :: u :: rest) h r h') : mh_go P d M pc lv (v :: u :: rest) h r h' :=
  mh_move k (fun p l e R s m args below meth c H locs cells slots ls E Q hPE hX hv hP w => lv_dup2_11 hX.1 hX.2.1 hd ((mh_c_cat E v).trans hq) ((mh_c_cat E u).trans hq2) w)
theorem st_pop {v : Value} (hd : decode M.2.1 pc = .ok (.pop, 1)) (hq : v.category = 1) (k : mh_go P d M (pc + 1) lv (rest) h r h') : mh_go P d M pc lv (v :: rest) h r h' :=
  mh_move k (fun p l e R s m args below meth c H locs cells slots ls E Q hPE hX hv hP w => lv_pop hX.1 hX.2.1 hd ((mh_c_cat E v).trans hq) w)
theorem st_goto {off : Int} {tgt : Nat} (hd : decode M.2.1 pc = .ok (.goto off, 3)) (ht : (pc : Int) + off = (tgt : Int)) (k : mh_go P d M tgt lv rest h r h') : mh_go P d M pc lv rest h r h' :=
  mh_move k (fun p l e R s m args below meth c H locs cells slots ls E Q hPE hX hv hP w => lv_goto hX.1 hX.2.1 hd ht w)
theorem st_if_eq_t {x : Int32} {off : Int} {tgt : Nat} (hd : decode M.2.1 pc = .ok (.ifCond .eq off, 3)) (ht : (pc : Int) + off = (tgt : Int)) (hc : x = 0) (k : mh_go P d M tgt lv rest h r h') : mh_go P d M pc lv (.int x :: rest) h r h' :=
  mh_move k (fun p l e R s m args below meth c H locs cells slots ls E Q hPE hX hv hP w => lv_if_eq hX.1 hX.2.1 hd ht (fun _ => w) (fun q => absurd hc q))
theorem st_if_eq_f {x : Int32} {off : Int} (hd : decode M.2.1 pc = .ok (.ifCond .eq off, 3)) (ht : ∃ tgt : Nat, (pc : Int) + off = (tgt : Int)) (hc : ¬ (x = 0)) (k : mh_go P d M (pc + 3) lv rest h r h') : mh_go P d M pc lv (.int x :: rest) h r h' :=
  ht.elim (fun _ ht => mh_move k (fun p l e R s m args below meth c H locs cells slots ls E Q hPE hX hv hP w => lv_if_eq hX.1 hX.2.1 hd ht (fun q => absurd q hc) (fun _ => w)))
theorem st_icmp_eq_t {x y : Int32} {off : Int} {tgt : Nat} (hd : decode M.2.1 pc = .ok (.if_icmp .eq off, 3)) (ht : (pc : Int) + off = (tgt : Int)) (hc : x = y) (k : mh_go P d M tgt lv rest h r h') : mh_go P d M pc lv (.int y :: .int x :: rest) h r h' :=
  mh_move k (fun p l e R s m args below meth c H locs cells slots ls E Q hPE hX hv hP w => lv_icmp_eq hX.1 hX.2.1 hd ht (fun _ => w) (fun q => absurd hc q))
theorem st_icmp_eq_f {x y : Int32} {off : Int} (hd : decode M.2.1 pc = .ok (.if_icmp .eq off, 3)) (ht : ∃ tgt : Nat, (pc : Int) + off = (tgt : Int)) (hc : ¬ (x = y)) (k : mh_go P d M (pc + 3) lv rest h r h') : mh_go P d M pc lv (.int y :: .int x :: rest) h r h' :=
  ht.elim (fun _ ht => mh_move k (fun p l e R s m args below meth c H locs cells slots ls E Q hPE hX hv hP w => lv_icmp_eq hX.1 hX.2.1 hd ht (fun q => absurd q hc) (fun _ => w)))
theorem st_if_ne_t {x : Int32} {off : Int} {tgt : Nat} (hd : decode M.2.1 pc = .ok (.ifCond .ne off, 3)) (ht : (pc : Int) + off = (tgt : Int)) (hc : ¬ x = 0) (k : mh_go P d M tgt lv rest h r h') : mh_go P d M pc lv (.int x :: rest) h r h' :=
  mh_move k (fun p l e R s m args below meth c H locs cells slots ls E Q hPE hX hv hP w => lv_if_ne hX.1 hX.2.1 hd ht (fun _ => w) (fun q => absurd q hc))
theorem st_if_ne_f {x : Int32} {off : Int} (hd : decode M.2.1 pc = .ok (.ifCond .ne off, 3)) (ht : ∃ tgt : Nat, (pc : Int) + off = (tgt : Int)) (hc : x = 0) (k : mh_go P d M (pc + 3) lv rest h r h') : mh_go P d M pc lv (.int x :: rest) h r h' :=
  ht.elim (fun _ ht => mh_move k (fun p l e R s m args below meth c H locs cells slots ls E Q hPE hX hv hP w => lv_if_ne hX.1 hX.2.1 hd ht (fun q => absurd hc q) (fun _ => w)))
theorem st_icmp_ne_t {x y : Int32} {off : Int} {tgt : Nat} (hd : decode M.2.1 pc = .ok (.if_icmp .ne off, 3)) (ht : (pc : Int) + off = (tgt : Int)) (hc : ¬ x = y) (k : mh_go P d M tgt lv rest h r h') : mh_go P d M pc lv (.int y :: .int x :: rest) h r h' :=
  mh_move k (fun p l e R s m args below meth c H locs cells slots ls E Q hPE hX hv hP w => lv_icmp_ne hX.1 hX.2.1 hd ht (fun _ => w) (fun q => absurd q hc))
theorem st_icmp_ne_f {x y : Int32} {off : Int} (hd : decode M.2.1 pc = .ok (.if_icmp .ne off, 3)) (ht : ∃ tgt : Nat, (pc : Int) + off = (tgt : Int)) (hc : x = y) (k : mh_go P d M (pc + 3) lv rest h r h') : mh_go P d M pc lv (.int y :: .int x :: rest) h r h' :=
  ht.elim (fun _ ht => mh_move k (fun p l e R s m args below meth c H locs cells slots ls E Q hPE hX hv hP w => lv_icmp_ne hX.1 hX.2.1 hd ht (fun q => absurd hc q) (fun _ => w)))
theorem st_if_lt_t {x : Int32} {off : Int} {tgt : Nat} (hd : decode M.2.1 pc = .ok (.ifCond .lt off, 3)) (ht : (pc : Int) + off = (tgt : Int)) (hc : x < 0) (k : mh_go P d M tgt lv rest h r h') : mh_go P d M pc lv (.int x :: rest) h r h' :=
  mh_move k (fun p l e R s m args below meth c H locs cells slots ls E Q hPE hX hv hP w => lv_if_lt hX.1 hX.2.1 hd ht (fun _ => w) (fun q => absurd hc q))
theorem st_if_lt_f {x : Int32} {off : Int} (hd : decode M.2.1 pc = .ok (.ifCond .lt off, 3)) (ht : ∃ tgt : Nat, (pc : Int) + off = (tgt : Int)) (hc : ¬ (x < 0)) (k : mh_go P d M (pc + 3) lv rest h r h') : mh_go P d M pc lv (.int x :: rest) h r h' :=
  ht.elim (fun _ ht => mh_move k (fun p l e R s m args below meth c H locs cells slots ls E Q hPE hX hv hP w => lv_if_lt hX.1 hX.2.1 hd ht (fun q => absurd q hc) (fun _ => w)))
theorem st_icmp_lt_t {x y : Int32} {off : Int} {tgt : Nat} (hd : decode M.2.1 pc = .ok (.if_icmp .lt off, 3)) (ht : (pc : Int) + off = (tgt : Int)) (hc : x < y) (k : mh_go P d M tgt lv rest h r h') : mh_go P d M pc lv (.int y :: .int x :: rest) h r h' :=
  mh_move k (fun p l e R s m args below meth c H locs cells slots ls E Q hPE hX hv hP w => lv_icmp_lt hX.1 hX.2.1 hd ht (fun _ => w) (fun q => absurd hc q))
theorem st_icmp_lt_f {x y : Int32} {off : Int} (hd : decode M.2.1 pc = .ok (.if_icmp .lt off, 3)) (ht : ∃ tgt : Nat, (pc : Int) + off = (tgt : Int)) (hc : ¬ (x < y)) (k : mh_go P d M (pc + 3) lv rest h r h') : mh_go P d M pc lv (.int y :: .int x :: rest) h r h' :=
  ht.elim (fun _ ht => mh_move k (fun p l e R s m args below meth c H locs cells slots ls E Q hPE hX hv hP w => lv_icmp_lt hX.1 hX.2.1 hd ht (fun q => absurd q hc) (fun _ => w)))
theorem st_if_ge_t {x : Int32} {off : Int} {tgt : Nat} (hd : decode M.2.1 pc = .ok (.ifCond .ge off, 3)) (ht : (pc : Int) + off = (tgt : Int)) (hc : 0 ≤ x) (k : mh_go P d M tgt lv rest h r h') : mh_go P d M pc lv (.int x :: rest) h r h' :=
  mh_move k (fun p l e R s m args below meth c H locs cells slots ls E Q hPE hX hv hP w => lv_if_ge hX.1 hX.2.1 hd ht (fun _ => w) (fun q => absurd hc q))
theorem st_if_ge_f {x : Int32} {off : Int} (hd : decode M.2.1 pc = .ok (.ifCond .ge off, 3)) (ht : ∃ tgt : Nat, (pc : Int) + off = (tgt : Int)) (hc : ¬ (0 ≤ x)) (k : mh_go P d M (pc + 3) lv rest h r h') : mh_go P d M pc lv (.int x :: rest) h r h' :=
  ht.elim (fun _ ht => mh_move k (fun p l e R s m args below meth c H locs cells slots ls E Q hPE hX hv hP w => lv_if_ge hX.1 hX.2.1 hd ht (fun q => absurd q hc) (fun _ => w)))
theorem st_icmp_ge_t {x y : Int32} {off : Int} {tgt : Nat} (hd : decode M.2.1 pc = .ok (.if_icmp .ge off, 3)) (ht : (pc : Int) + off = (tgt : Int)) (hc : y ≤ x) (k : mh_go P d M tgt lv rest h r h') : mh_go P d M pc lv (.int y :: .int x :: rest) h r h' :=
  mh_move k (fun p l e R s m args below meth c H locs cells slots ls E Q hPE hX hv hP w => lv_icmp_ge hX.1 hX.2.1 hd ht (fun _ => w) (fun q => absurd hc q))
theorem st_icmp_ge_f {x y : Int32} {off : Int} (hd : decode M.2.1 pc = .ok (.if_icmp .ge off, 3)) (ht : ∃ tgt : Nat, (pc : Int) + off = (tgt : Int)) (hc : ¬ (y ≤ x)) (k : mh_go P d M (pc + 3) lv rest h r h') : mh_go P d M pc lv (.int y :: .int x :: rest) h r h' :=
  ht.elim (fun _ ht => mh_move k (fun p l e R s m args below meth c H locs cells slots ls E Q hPE hX hv hP w => lv_icmp_ge hX.1 hX.2.1 hd ht (fun q => absurd q hc) (fun _ => w)))
theorem st_if_gt_t {x : Int32} {off : Int} {tgt : Nat} (hd : decode M.2.1 pc = .ok (.ifCond .gt off, 3)) (ht : (pc : Int) + off = (tgt : Int)) (hc : 0 < x) (k : mh_go P d M tgt lv rest h r h') : mh_go P d M pc lv (.int x :: rest) h r h' :=
  mh_move k (fun p l e R s m args below meth c H locs cells slots ls E Q hPE hX hv hP w => lv_if_gt hX.1 hX.2.1 hd ht (fun _ => w) (fun q => absurd hc q))
theorem st_if_gt_f {x : Int32} {off : Int} (hd : decode M.2.1 pc = .ok (.ifCond .gt off, 3)) (ht : ∃ tgt : Nat, (pc : Int) + off = (tgt : Int)) (hc : ¬ (0 < x)) (k : mh_go P d M (pc + 3) lv rest h r h') : mh_go P d M pc lv (.int x :: rest) h r h' :=
  ht.elim (fun _ ht => mh_move k (fun p l e R s m args below meth c H locs cells slots ls E Q hPE hX hv hP w => lv_if_gt hX.1 hX.2.1 hd ht (fun q => absurd q hc) (fun _ => w)))
theorem st_icmp_gt_t {x y : Int32} {off : Int} {tgt : Nat} (hd : decode M.2.1 pc = .ok (.if_icmp .gt off, 3)) (ht : (pc : Int) + off = (tgt : Int)) (hc : y < x) (k : mh_go P d M tgt lv rest h r h') : mh_go P d M pc lv (.int y :: .int x :: rest) h r h' :=
  mh_move k (fun p l e R s m args below meth c H locs cells slots ls E Q hPE hX hv hP w => lv_icmp_gt hX.1 hX.2.1 hd ht (fun _ => w) (fun q => absurd hc q))
theorem st_icmp_gt_f {x y : Int32} {off : Int} (hd : decode M.2.1 pc = .ok (.if_icmp .gt off, 3)) (ht : ∃ tgt : Nat, (pc : Int) + off = (tgt : Int)) (hc : ¬ (y < x)) (k : mh_go P d M (pc + 3) lv rest h r h') : mh_go P d M pc lv (.int y :: .int x :: rest) h r h' :=
  ht.elim (fun _ ht => mh_move k (fun p l e R s m args below meth c H locs cells slots ls E Q hPE hX hv hP w => lv_icmp_gt hX.1 hX.2.1 hd ht (fun q => absurd q hc) (fun _ => w)))
theorem st_if_le_t {x : Int32} {off : Int} {tgt : Nat} (hd : decode M.2.1 pc = .ok (.ifCond .le off, 3)) (ht : (pc : Int) + off = (tgt : Int)) (hc : x ≤ 0) (k : mh_go P d M tgt lv rest h r h') : mh_go P d M pc lv (.int x :: rest) h r h' :=
  mh_move k (fun p l e R s m args below meth c H locs cells slots ls E Q hPE hX hv hP w => lv_if_le hX.1 hX.2.1 hd ht (fun _ => w) (fun q => absurd hc q))
theorem st_if_le_f {x : Int32} {off : Int} (hd : decode M.2.1 pc = .ok (.ifCond .le off, 3)) (ht : ∃ tgt : Nat, (pc : Int) + off = (tgt : Int)) (hc : ¬ (x ≤ 0)) (k : mh_go P d M (pc + 3) lv rest h r h') : mh_go P d M pc lv (.int x :: rest) h r h' :=
  ht.elim (fun _ ht => mh_move k (fun p l e R s m args below meth c H locs cells slots ls E Q hPE hX hv hP w => lv_if_le hX.1 hX.2.1 hd ht (fun q => absurd q hc) (fun _ => w)))
theorem st_icmp_le_t {x y : Int32} {off : Int} {tgt : Nat} (hd : decode M.2.1 pc = .ok (.if_icmp .le off, 3)) (ht : (pc : Int) + off = (tgt : Int)) (hc : x ≤ y) (k : mh_go P d M tgt lv rest h r h') : mh_go P d M pc lv (.int y :: .int x :: rest) h r h' :=
  mh_move k (fun p l e R s m args below meth c H locs cells slots ls E Q hPE hX hv hP w => lv_icmp_le hX.1 hX.2.1 hd ht (fun _ => w) (fun q => absurd hc q))
theorem st_icmp_le_f {x y : Int32} {off : Int} (hd : decode M.2.1 pc = .ok (.if_icmp .le off, 3)) (ht : ∃ tgt : Nat, (pc : Int) + off = (tgt : Int)) (hc : ¬ (x ≤ y)) (k : mh_go P d M (pc + 3) lv rest h r h') : mh_go P d M pc lv (.int y :: .int x :: rest) h r h' :=
  ht.elim (fun _ ht => mh_move k (fun p l e R s m args below meth c H locs cells slots ls E Q hPE hX hv hP w => lv_icmp_le hX.1 hX.2.1 hd ht (fun q => absurd q hc) (fun _ => w)))
theorem st_tin {dflt lo hi : Int} {offs : Array Int} {len tgt : Nat} {x : Int32} {off : Int} (hd : decode M.2.1 pc = .ok (.tableswitch dflt lo hi offs, len)) (h1 : ¬ x.toInt < lo) (h2 : ¬ hi < x.toInt) (ho : offs[(x.toInt - lo).toNat]? = some off) (ht : (pc : Int) + off = (tgt : Int)) (k : mh_go P d M tgt lv rest h r h') : mh_go P d M pc lv (.int x :: rest) h r h' :=
  mh_move k (fun p l e R s m args below meth c H locs cells slots ls E Q hPE hX hv hP w => lv_tableIn hX.1 hX.2.1 hd h1 h2 ho ht w)
theorem st_tout {dflt lo hi : Int} {offs : Array Int} {len tgt : Nat} {x : Int32} (hd : decode M.2.1 pc = .ok (.tableswitch dflt lo hi offs, len)) (hc : x.toInt < lo ∨ hi < x.toInt) (ht : (pc : Int) + dflt = (tgt : Int)) (k : mh_go P d M tgt lv rest h r h') : mh_go P d M pc lv (.int x :: rest) h r h' :=
  mh_move k (fun p l e R s m args below meth c H locs cells slots ls E Q hPE hX hv hP w => lv_tableOut hX.1 hX.2.1 hd hc ht w)
end MHS
