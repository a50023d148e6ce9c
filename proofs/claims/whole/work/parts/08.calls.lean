/-! calls -/
def mh_args : List Value → List (Option Value)
  | [] => []
  | v :: vs => if v.category = 2 then some v :: none :: mh_args vs else some v :: mh_args vs
def mh_pad (n : Nat) (l : List (Option Value)) : List (Option Value) := l ++ List.replicate (n - l.length) none
theorem mh_args_len : ∀ vs : List Value, (mh_args vs).length = (lg_sl vs).length
  | [] => rfl
  | v :: vs => by
    have ih := mh_args_len vs
    unfold mh_args
    unfold lg_sl at ih ⊢
    rw [List.flatMap_cons, List.length_append, ← ih]
    by_cases hv : v.category = 2
    · simp [hv]; omega
    · simp [hv]; omega
theorem mh_args_get : ∀ (vs : List Value) (o i : Nat) (v : Value), (mh_args vs)[i]? = some (some v) → (o + i, v) ∈ lv_args o vs
  | [], _, i, v, h => by simp [mh_args] at h
  | w :: vs, o, i, v, h => by
    unfold mh_args at h
    unfold lv_args
    by_cases hw : w.category = 2
    · rw [if_pos hw] at h
      match i, h with
      | 0, h =>
        simp at h
        subst h
        exact List.mem_cons_self
      | 1, h => simp at h
      | i + 2, h =>
        simp at h
        rw [if_pos hw]
        have := mh_args_get vs (o + 2) i v h
        rw [show o + (i + 2) = o + 2 + i by omega]
        exact List.mem_cons_of_mem _ this
    · rw [if_neg hw] at h
      match i, h with
      | 0, h =>
        simp at h
        subst h
        exact List.mem_cons_self
      | i + 1, h =>
        simp at h
        rw [if_neg hw]
        have := mh_args_get vs (o + 1) i v h
        rw [show o + (i + 1) = o + 1 + i by omega]
        exact List.mem_cons_of_mem _ this
theorem mh_args_map (E : mh_E) : ∀ (vs : List Value) (o : Nat), lv_args o (vs.map (mh_c E)) = (lv_args o vs).map (fun q => (q.1, mh_c E q.2))
  | [], _ => rfl
  | v :: vs, o => by
    simp only [List.map_cons, lv_args, mh_c_cat, mh_args_map E vs]
theorem mh_sl_len (E : mh_E) (vs : List Value) : (lg_sl (vs.map (mh_c E))).length = (lg_sl vs).length := by
  induction vs with
  | nil => rfl
  | cons v vs ih =>
    unfold lg_sl at ih ⊢
    rw [List.map_cons, List.flatMap_cons, List.flatMap_cons, List.length_append, List.length_append, ih, mh_c_cat]
    by_cases hv : v.category = 2
    · simp [hv]
    · simp [hv]
def mh_Pc (P : mh_E → Prop) (E : mh_E) (vs : List Value) (h : mh_H) : Array Value → State → Prop := va_Pc (vs.map (mh_c E)) (fun U => mh_P E h U.heap ∧ mh_KU E U ∧ mh_SH E U U.heap ∧ mh_sz E ≤ U.heap.size)
theorem mh_blind {P : mh_E → Prop} {E : mh_E} {vs : List Value} {h : mh_H} : FrameBlind (mh_Pc P E vs h) := fun a U g mk q => by
  obtain ⟨q0, q1, q2, q3, q4⟩ := q
  exact ⟨q0, q1, mh_KU.same (s := U) (U := U.calling g mk a) rfl q2, mh_SH.moved (s := U) (U := U.calling g mk a) (Vm.Alike.refl U.vm) q3, q4⟩
def mh_rm (d c z : Nat) : Room := { frames := d, cells := c, slots := z, locals := 64 * d }
/-- a method's own words -/
def mh_mok (Y : mh_M) : Prop := Cond.code Y.1 Y.2.1 Y.2.2.1 Y.2.2.2 ∈ mh_T ∧ Cond.initialized Y.1.cls ∈ mh_T ∧ plainName Y.1.cls = true ∧ (Y.1.cls ≠ "java/lang/invoke/MethodHandle" ∧ Y.1.cls ≠ "java/lang/invoke/VarHandle") ∧ Y.2.2.1 ≤ 40
theorem mh_met {P : mh_E → Prop} {d : Nat} {Y : mh_M} {vs : List Value} {h : mh_H} {r : Option Value} {h' : mh_H} {lv : List (Option Value)} (hlv : mh_pad Y.2.2.1 (mh_args vs) = lv) (hlen : lv.length = Y.2.2.1) (g : mh_go P d Y 0 lv [] h r h') (hy : plainName Y.1.cls = true) (l : Launch) (E : mh_E) (hPE : P E) :
    Met l Y.1 (Cond.code Y.1 Y.2.1 Y.2.2.1 Y.2.2.2 :: mh_T) (mh_rm d (mh_n h' - mh_n h) (mh_z h' - mh_z h)) (mh_Pc P E vs h) (mh_Q E r h') (mh_n h' - mh_n h) (mh_z h' - mh_z h) (mh_A E) := by
  refine Met.ofW (cc := Y.2.1) (maxL := Y.2.2.1) (ret := Y.2.2.2) hy rfl ?_
  intro p e s m args below meth c s₁ B hml hv
  obtain ⟨rfl, hP, hKU, hSH, hsz⟩ := hv
  have hts := atoms_spec (ws := Cond.code Y.1 Y.2.1 Y.2.2.1 Y.2.2.2 :: mh_T) B.pre
  have hle : (lg_sl (vs.map (mh_c E))).length ≤ Y.2.2.1 := by
    rw [mh_sl_len, ← mh_args_len]
    have := hlen
    rw [← hlv] at this
    unfold mh_pad at this
    rw [List.length_append] at this
    omega
  have hl := lv_entry (vs.map (mh_c E)) (n := Y.2.2.1) hle
  rw [lg_entry_eq]
  refine g.2 p l e _ s m _ below meth c s.heap [] 0 0 _ E (mh_n h) (mh_z h) _ _ hPE ⟨B.exec, B.bytes, hml, B.returns, B.notSynchronized, findClass_of_methodNamed B.named, (name_of_methodNamed B.named B.method).1, fun w hw => hts w (List.mem_cons_of_mem _ hw), hKU, hSH, hsz⟩ (Nat.le_refl _) (Nat.le_refl _) (by show _ ≤ mh_n h' - mh_n h + _; omega) (by show _ ≤ mh_z h' - mh_z h + _; omega) hP va_S.rf ⟨hl.1, hl.2.1, fun q hq => hl.2.2 q ?_⟩ hlen (Nat.zero_add _) (Nat.zero_add _) (by have := g.1.1; omega) (by have := g.1.2; omega)
  obtain ⟨i, w⟩ := q
  obtain ⟨v, h1, rfl⟩ := mh_as_mem.mp hq
  rw [← hlv] at h1
  unfold mh_pad at h1
  have h2 : (mh_args vs)[i]? = some (some v) := by
    by_cases hi : i < (mh_args vs).length
    · rwa [List.getElem?_append_left hi] at h1
    · rw [List.getElem?_append_right (by omega), List.getElem?_replicate] at h1
      split at h1 <;> simp at h1
  have h3 := mh_args_get vs 0 i v h2
  rw [mh_args_map]
  rw [Nat.zero_add] at h3
  exact List.mem_map.mpr ⟨_, h3, rfl⟩
theorem mh_good {Y Y2 : mh_M} (hY : Cond.code Y2.1 Y2.2.1 Y2.2.2.1 Y2.2.2.2 ∈ mh_T) : GoodIn mh_T (Cond.code Y2.1 Y2.2.1 Y2.2.2.1 Y2.2.2.2 :: mh_T) := fun w hw => by
  have hm : w ∈ mh_T := by
    rcases List.mem_cons.mp hw with rfl | hw
    · exact hY
    · exact hw
  exact ⟨hm, mh_T_good w hm⟩
section MHK
variable {P : mh_E → Prop} {d : Nat} {M : mh_M} {pc : Nat} {lv : List (Option Value)} {rest : List Value} {h : mh_H} {r : Option Value} {h' : mh_H}
/-- behind a call -/
theorem mh_behind {p : Program} {l : Launch} {e : Env} {R : Room} {s : State} {m : MethodId} {args : Array Value} {below : List Frame} {meth : Method} {c : Code} {H : Heap} {locs : List Loc} {cells slots mc ms : Nat} {ls : Array Slot} {E : mh_E} {Q : State → Prop} {st0 rs : List Value} {a : Array Value} {r1 : Option Value} {h1 : mh_H}
    (hr : va_Run p l e R s m args below meth c H locs cells slots mc ms (F0 m pc ls st0) rs (mh_Q E r1 h1 a) (mh_A E)) (hS : va_S (mh_A E) s.heap H locs)
    (kk : ∀ (H1 : Heap) (locs1 : List Loc), mh_P E h1 H1 → va_S (mh_A E) s.heap H1 locs1 → W p l e R s m args below meth c H1 locs1 (cells + mc) (slots + ms) Q (F0 m (pc + 3) ls ((r1.map (mh_c E)).toList ++ rs))) : W p l e R s m args below meth c H locs cells slots Q (F0 m pc ls st0) := by
  intro T hT X
  obtain ⟨v, st₀, t, T', L, h0, X', hL, e1, e2, ⟨hv, hp, hz, hk⟩, st⟩ := hr T hT X
  have hv' : v = r1.map (mh_c E) := Outcome.returned.inj hv
  subst hv'
  rw [h0] at hz hk
  obtain ⟨t2, a1, b1⟩ := kk T'.heap (locs ++ L) (by rw [e1]; exact hp)
    ⟨Nat.le_trans hS.1 (by rw [e1]; exact hz), fun q g1 g2 => by rw [e1, hk q (Nat.lt_of_lt_of_le g1 hS.1) g2]; exact hS.2.1 q g1 g2, fun q hq => by
      rcases List.mem_append.mp hq with h | h
      · exact hS.2.2 q h
      · exact hL q h⟩ T' rfl X'
  exact ⟨t2, st t2 a1, b1⟩
/-- a call of Y: what is left to say is how it is linked -/
theorem mh_call {d2 : Nat} {Y : mh_M} {vs st : List Value} {r1 : Option Value} {h1 : mh_H} {lv0 : List (Option Value)} (hst : st = vs.reverse ++ rest) (hlv : mh_pad Y.2.2.1 (mh_args vs) = lv0) (hlen : lv0.length = Y.2.2.1) (hok : mh_mok Y) (hd2 : d2 + 1 ≤ d) (hW : (rest.map fun v => v.category).sum ≤ 8) (g : mh_go P d2 Y 0 lv0 [] h r1 h1) {st2 : List Value} (hs2 : r1.toList ++ rest = st2) (k : mh_go P d M (pc + 3) lv st2 h1 r h')
    (f : ∀ (p : Program) (l : Launch) (e : Env) (R : Room) (s : State) (m : MethodId) (args : Array Value) (below : List Frame) (meth : Method) (c : Code) (H : Heap) (locs : List Loc) (cells slots : Nat) (ls : Array Slot) (E : mh_E), mh_X M E p s m args meth c → mh_P E h H → va_S (mh_A E) s.heap H locs → Met l Y.1 (Cond.code Y.1 Y.2.1 Y.2.2.1 Y.2.2.2 :: mh_T) (mh_rm d2 (mh_n h1 - mh_n h) (mh_z h1 - mh_z h)) (mh_Pc P E vs h) (mh_Q E r1 h1) (mh_n h1 - mh_n h) (mh_z h1 - mh_z h) (mh_A E) →
      (d2 + 1 ≤ R.frames ∧ 8 + (Y.2.2.1 + 11) + 64 * d2 ≤ R.locals) → (cells + (mh_n h1 - mh_n h) ≤ R.cells ∧ slots + (mh_z h1 - mh_z h) ≤ R.slots) → (∀ U : State, U.heap = H → s.WarmedH U.vm → mh_Pc P E vs h (vs.map (mh_c E)).toArray U) → ls.size = M.2.2.1 → 2 * (F0 m pc ls (st.map (mh_c E))).monitorRoom + ((rest.map (mh_c E)).map fun v => v.category).sum ≤ 8 →
      va_Run p l e R s m args below meth c H locs cells slots (mh_n h1 - mh_n h) (mh_z h1 - mh_z h) (F0 m pc ls (st.map (mh_c E))) (rest.map (mh_c E)) (mh_Q E r1 h1 (vs.map (mh_c E)).toArray) (mh_A E)) : mh_go P d M pc lv st h r h' := by
  subst hs2
  have g1 := g.1
  have k1 := k.1
  refine ⟨⟨Nat.le_trans g1.1 k1.1, Nat.le_trans g1.2 k1.2⟩, fun p l e R s m args below meth c H locs cells slots ls E n0 z0 mc ms hPE hX hf hl hc hs hP hS hv hnn e1 e2 e3 e4 => ?_⟩
  have hmet := mh_met hlv hlen g hok.2.2.1 l E hPE
  have hmax := hok.2.2.2.2
  refine mh_behind (f p l e R s m args below meth c H locs cells slots ls E hX hP hS hmet ⟨by omega, by omega⟩ ⟨by omega, by omega⟩ (fun U hU hW => ⟨rfl, by rw [hU]; exact hP, hX.2.2.2.2.2.2.2.2.1.warm hW, ?_, ?_⟩) hv.1 (lv_room (by rw [mh_c_cats]; exact hW))) hS (fun H1 locs1 hP1 hS1 => ?_)
  · rw [hU]
    exact (hX.2.2.2.2.2.2.2.2.2.1.kept hS.2.1).moved hW.alike
  · rw [hU]
    exact Nat.le_trans hX.2.2.2.2.2.2.2.2.2.2 hS.1
  · have w := k.2 p l e R s m args below meth c H1 locs1 (cells + (mh_n h1 - mh_n h)) (slots + (mh_z h1 - mh_z h)) ls E n0 z0 mc ms hPE hX hf hl hc hs hP1 hS1 hv hnn (by omega) (by omega) e3 e4
    rw [List.map_append] at w
    cases r1 with
    | none => exact w
    | some v => exact w
theorem mh_fix {E : mh_E} {p : Program} {s : State} {m : MethodId} {args : Array Value} {meth : Method} {c : Code} (hX : mh_X M E p s m args meth c) : CallFix p m c M.2.1 M.2.2.1 s args mh_T M.1.cls := ⟨hX.1, hX.2.1, hX.2.2.1, hX.2.2.2.2.2.1, hX.2.2.2.2.2.2.2.1⟩
theorem mh_rev {E : mh_E} {vs st : List Value} (hst : st = vs.reverse ++ rest) : st.map (mh_c E) = (vs.map (mh_c E)).reverse ++ rest.map (mh_c E) := by rw [hst, List.map_append, List.map_reverse]
theorem st_invS {d2 index n : Nat} {Y : mh_M} {vs st : List Value} {r1 : Option Value} {h1 : mh_H} {lv0 : List (Option Value)} (hd : decode M.2.1 pc = .ok (.invokestatic index, 3)) (hok : mh_mok Y) (hl : Cond.methodLink M.1.cls index Y.1 ∈ mh_T) (hs : Cond.static Y.1 ∈ mh_T) (hp : (parseMethodDescriptor Y.1.desc).map (fun d => d.parameters.length) = some n) (hn : vs.length = n) (hst : st = vs.reverse ++ rest) (hlv : mh_pad Y.2.2.1 (mh_args vs) = lv0) (hlen : lv0.length = Y.2.2.1) (hd2 : d2 + 1 ≤ d) (hW : (rest.map fun v => v.category).sum ≤ 8) (g : mh_go P d2 Y 0 lv0 [] h r1 h1) {st2 : List Value} (hs2 : r1.toList ++ rest = st2) (k : mh_go P d M (pc + 3) lv st2 h1 r h') : mh_go P d M pc lv st h r h' :=
  mh_call hst hlv hlen hok hd2 hW g hs2 k (fun p l e R s m args below meth c H locs cells slots ls E hX hP hSS hM hR hf hpre hsz hW => va_runS (mh_fix hX) hM ⟨callB_of n hX.2.2.2.2.2.2.2.1 (mh_good (Y := Y) hok.1) rfl rfl rfl (hX.2.2.2.2.2.2.2.1 _ hok.2.1) (hX.2.2.2.2.2.2.2.1 _ hl) ⟨hok.2.2.2.1.1, hok.2.2.2.1.2, hp⟩ hR, hX.2.2.2.2.2.2.2.1 _ hs⟩ ⟨mh_blind, hpre⟩ rfl (by rw [List.length_map]; exact hn) hsz (mh_rev hst) hW hd hf)
theorem st_invSN {d2 index n : Nat} {host : String} {Y : mh_M} {vs st : List Value} {r1 : Option Value} {h1 : mh_H} {lv0 : List (Option Value)} (hd : decode M.2.1 pc = .ok (.invokestatic index, 3)) (hok : mh_mok Y) (hl : Cond.methodLinkNest M.1.cls index Y.1 host ∈ mh_nest) (hs : Cond.static Y.1 ∈ mh_T) (hp : (parseMethodDescriptor Y.1.desc).map (fun d => d.parameters.length) = some n) (hn : vs.length = n) (hst : st = vs.reverse ++ rest) (hlv : mh_pad Y.2.2.1 (mh_args vs) = lv0) (hlen : lv0.length = Y.2.2.1) (hd2 : d2 + 1 ≤ d) (hW : (rest.map fun v => v.category).sum ≤ 8) (g : mh_go P d2 Y 0 lv0 [] h r1 h1) {st2 : List Value} (hs2 : r1.toList ++ rest = st2) (k : mh_go P d M (pc + 3) lv st2 h1 r h') : mh_go P d M pc lv st h r h' :=
  mh_call hst hlv hlen hok hd2 hW g hs2 k (fun p l e R s m args below meth c H locs cells slots ls E hX hP hSS hM hR hf hpre hsz hW => va_runSN (mh_fix hX) hM ⟨va_cnB n hX.2.2.2.2.2.2.2.1 (mh_good (Y := Y) hok.1) rfl rfl rfl (hX.2.2.2.2.2.2.2.2.1.2.1 _ hl) (hX.2.2.2.2.2.2.2.1 _ hok.2.1) ⟨hok.2.2.2.1.1, hok.2.2.2.1.2, hp⟩ hR, hX.2.2.2.2.2.2.2.1 _ hs, trivial⟩ ⟨mh_blind, hpre⟩ rfl (by rw [List.length_map]; exact hn) hsz (mh_rev hst) hW hd hf)
theorem st_invI {d2 index n b : Nat} {y : MethodName} {bytes : ByteArray} {maxL : Nat} {vs st : List Value} {r1 : Option Value} {h1 : mh_H} {lv0 : List (Option Value)} (hd : decode M.2.1 pc = .ok (.invokespecial index, 3)) (hok : mh_mok (y, bytes, maxL, none)) (hl : Cond.methodLink M.1.cls index y ∈ mh_T) (hi : Cond.instanceMethod y ∈ mh_T) (hy : y.name = "<init>") (hp : (parseMethodDescriptor y.desc).map (fun d => d.parameters.length) = some n) (hn : vs.length = n) (hst : st = (.ref b :: vs).reverse ++ rest) (hlv : mh_pad maxL (mh_args (.ref b :: vs)) = lv0) (hlen : lv0.length = maxL) (hd2 : d2 + 1 ≤ d) (hW : (rest.map fun v => v.category).sum ≤ 8) (g : mh_go P d2 (y, bytes, maxL, none) 0 lv0 [] h r1 h1) {st2 : List Value} (hs2 : r1.toList ++ rest = st2) (k : mh_go P d M (pc + 3) lv st2 h1 r h') : mh_go P d M pc lv st h r h' :=
  mh_call (Y := (y, bytes, maxL, none)) hst hlv hlen hok hd2 hW g hs2 k (fun p l e R s m args below meth c H locs cells slots ls E hX hP hSS hM hR hf hpre hsz hW => va_runI (b := mh_ad E b) (As := vs.map (mh_c E)) (mh_fix hX) hM ⟨callB_of n hX.2.2.2.2.2.2.2.1 (mh_good (Y := (y, bytes, maxL, none)) hok.1) rfl rfl rfl (hX.2.2.2.2.2.2.2.1 _ hok.2.1) (hX.2.2.2.2.2.2.2.1 _ hl) ⟨hok.2.2.2.1.1, hok.2.2.2.1.2, hp⟩ hR, hy, hX.2.2.2.2.2.2.2.1 _ hi⟩ ⟨mh_blind, hpre⟩ rfl (by rw [List.length_map]; exact hn) hsz (by rw [show (F0 m pc ls (st.map (mh_c E))).stack = _ from mh_rev hst]; simp [mh_c]) hW hd hf)
theorem st_invIN {d2 index n b : Nat} {host : String} {y : MethodName} {bytes : ByteArray} {maxL : Nat} {vs st : List Value} {r1 : Option Value} {h1 : mh_H} {lv0 : List (Option Value)} (hd : decode M.2.1 pc = .ok (.invokespecial index, 3)) (hok : mh_mok (y, bytes, maxL, none)) (hl : Cond.methodLinkNest M.1.cls index y host ∈ mh_nest) (hi : Cond.instanceMethod y ∈ mh_T) (hy : y.name = "<init>") (hp : (parseMethodDescriptor y.desc).map (fun d => d.parameters.length) = some n) (hn : vs.length = n) (hst : st = (.ref b :: vs).reverse ++ rest) (hlv : mh_pad maxL (mh_args (.ref b :: vs)) = lv0) (hlen : lv0.length = maxL) (hd2 : d2 + 1 ≤ d) (hW : (rest.map fun v => v.category).sum ≤ 8) (g : mh_go P d2 (y, bytes, maxL, none) 0 lv0 [] h r1 h1) {st2 : List Value} (hs2 : r1.toList ++ rest = st2) (k : mh_go P d M (pc + 3) lv st2 h1 r h') : mh_go P d M pc lv st h r h' :=
  mh_call (Y := (y, bytes, maxL, none)) hst hlv hlen hok hd2 hW g hs2 k (fun p l e R s m args below meth c H locs cells slots ls E hX hP hSS hM hR hf hpre hsz hW => va_runIN (b := mh_ad E b) (As := vs.map (mh_c E)) (mh_fix hX) hM ⟨va_cnB n hX.2.2.2.2.2.2.2.1 (mh_good (Y := (y, bytes, maxL, none)) hok.1) rfl rfl rfl (hX.2.2.2.2.2.2.2.2.1.2.1 _ hl) (hX.2.2.2.2.2.2.2.1 _ hok.2.1) ⟨hok.2.2.2.1.1, hok.2.2.2.1.2, hp⟩ hR, hy, hX.2.2.2.2.2.2.2.1 _ hi⟩ ⟨mh_blind, hpre⟩ rfl (by rw [List.length_map]; exact hn) hsz (by rw [show (F0 m pc ls (st.map (mh_c E))).stack = _ from mh_rev hst]; simp [mh_c]) hW hd hf)
theorem st_invV {d2 index n b ci : Nat} {Y : mh_M} {vs st : List Value} {r1 : Option Value} {h1 : mh_H} {lv0 : List (Option Value)} (hd : decode M.2.1 pc = .ok (.invokevirtual index, 3)) (hok : mh_mok Y) (hci : ci < 13) (hk : mh_k h b = ci + 2) (hb : b < mh_n h) (hl : Cond.methodLink M.1.cls index Y.1 ∈ mh_T) (hi : Cond.instanceMethod Y.1 ∈ mh_T) (hse : Cond.selects (mh_R ci) Y.1 Y.1 ∈ mh_T) (hp : (parseMethodDescriptor Y.1.desc).map (fun d => d.parameters.length) = some n) (hn : vs.length = n) (hst : st = (.ref b :: vs).reverse ++ rest) (hlv : mh_pad Y.2.2.1 (mh_args (.ref b :: vs)) = lv0) (hlen : lv0.length = Y.2.2.1) (hd2 : d2 + 1 ≤ d) (hW : (rest.map fun v => v.category).sum ≤ 8) (g : mh_go P d2 Y 0 lv0 [] h r1 h1) {st2 : List Value} (hs2 : r1.toList ++ rest = st2) (k : mh_go P d M (pc + 3) lv st2 h1 r h') : mh_go P d M pc lv st h r h' :=
  mh_call hst hlv hlen hok hd2 hW g hs2 k (fun p l e R s m args below meth c H locs cells slots ls E hX hP hSS hM hR hf hpre hsz hW => va_runV (C := mh_R ci) (b := mh_ad E b) (As := vs.map (mh_c E)) (mh_fix hX) hM ⟨callB_of n hX.2.2.2.2.2.2.2.1 (mh_good (Y := Y) hok.1) rfl rfl rfl (hX.2.2.2.2.2.2.2.1 _ hok.2.1) (hX.2.2.2.2.2.2.2.1 _ hl) ⟨hok.2.2.2.1.1, hok.2.2.2.1.2, hp⟩ hR, hX.2.2.2.2.2.2.2.1 _ hi, hX.2.2.2.2.2.2.2.1 _ hse⟩ ⟨mh_blind, mh_recv hX.2.2.2.2.2.2.2.2.1 hP hci hk hb, hpre⟩ rfl (by rw [List.length_map]; exact hn) hsz (by rw [show (F0 m pc ls (st.map (mh_c E))).stack = _ from mh_rev hst]; simp [mh_c]) hW hd hf)
/-- the named method x may be another one than that which is run, Y -/
theorem st_invU {d2 index n b ci : Nat} {owner : String} {x : MethodName} {Y : mh_M} {b0 : ByteArray} {m0 : Nat} {r0 : Option FieldType} {vs st : List Value} {r1 : Option Value} {h1 : mh_H} {lv0 : List (Option Value)} (hd : decode M.2.1 pc = .ok (.invokevirtual index, 3)) (hok : mh_mok Y) (hci : ci < 13) (hk : mh_k h b = ci + 2) (hb : b < mh_n h) (hl : Cond.methodLink M.1.cls index x ∈ mh_T) (hsm : Cond.sameMethod x.cls owner x.name x.desc ∈ mh_T) (hi0 : Cond.instanceMethod ⟨owner, x.name, x.desc⟩ ∈ mh_T) (hc0 : Cond.code ⟨owner, x.name, x.desc⟩ b0 m0 r0 ∈ mh_T) (hi : Cond.instanceMethod Y.1 ∈ mh_T) (hse : Cond.selects (mh_R ci) x Y.1 ∈ mh_T) (how : owner ≠ "java/lang/invoke/MethodHandle" ∧ owner ≠ "java/lang/invoke/VarHandle") (hp : (parseMethodDescriptor x.desc).map (fun d => d.parameters.length) = some n) (hn : vs.length = n) (hst : st = (.ref b :: vs).reverse ++ rest) (hlv : mh_pad Y.2.2.1 (mh_args (.ref b :: vs)) = lv0) (hlen : lv0.length = Y.2.2.1) (hd2 : d2 + 1 ≤ d) (hW : (rest.map fun v => v.category).sum ≤ 8) (g : mh_go P d2 Y 0 lv0 [] h r1 h1) {st2 : List Value} (hs2 : r1.toList ++ rest = st2) (k : mh_go P d M (pc + 3) lv st2 h1 r h') : mh_go P d M pc lv st h r h' :=
  mh_call hst hlv hlen hok hd2 hW g hs2 k (fun p l e R s m args below meth c H locs cells slots ls E hX hP hSS hM hR hf hpre hsz hW => by
    have hts := hX.2.2.2.2.2.2.2.1
    have hG := mh_good (Y := Y) hok.1
    have hcU : va_CU R s args M.1.cls (mh_R ci) owner index x Y.1 Y.2.1 Y.2.2.1 Y.2.2.2 (Cond.code Y.1 Y.2.1 Y.2.2.1 Y.2.2.2 :: mh_T) (mh_rm d2 (mh_n h1 - mh_n h) (mh_z h1 - mh_z h)) (mh_n h1 - mh_n h) (mh_z h1 - mh_z h) n := by
      refine ⟨⟨rfl, rfl, hR.1, hR.2, pay_in hts hG, List.mem_cons_self⟩, hts _ hok.1, hts _ hok.2.1, how, fun sig hq => ?_, hts _ hl, hts _ hsm, va_Decl.of (hts _ hi0) (hts _ hc0), hts _ hse, hts _ hi⟩
      rw [hq] at hp
      exact (Option.some.inj hp).symm
    exact va_runU (C := mh_R ci) (b := mh_ad E b) (As := vs.map (mh_c E)) (mh_fix hX) hM hcU ⟨mh_blind, mh_recv hX.2.2.2.2.2.2.2.2.1 hP hci hk hb, hpre⟩ rfl (by rw [List.length_map]; exact hn) hsz (by rw [show (F0 m pc ls (st.map (mh_c E))).stack = _ from mh_rev hst]; simp [mh_c]) hW hd hf)
theorem st_invP {d2 index n b ci : Nat} {Y : mh_M} {vs st : List Value} {r1 : Option Value} {h1 : mh_H} {lv0 : List (Option Value)} (hd : decode M.2.1 pc = .ok (.invokespecial index, 3)) (hok : mh_mok Y) (hci : ci < 13) (hk : mh_k h b = ci + 2) (hb : b < mh_n h) (hl : Cond.methodLink M.1.cls index Y.1 ∈ mh_T) (hsm : Cond.sameMethod Y.1.cls Y.1.cls Y.1.name Y.1.desc ∈ mh_T) (hsu : Cond.superclass M.1.cls Y.1.cls ∈ mh_T) (hi : Cond.instanceMethod Y.1 ∈ mh_T) (hy : Y.1.name ≠ "<init>") (hp : (parseMethodDescriptor Y.1.desc).map (fun d => d.parameters.length) = some n) (hn : vs.length = n) (hst : st = (.ref b :: vs).reverse ++ rest) (hlv : mh_pad Y.2.2.1 (mh_args (.ref b :: vs)) = lv0) (hlen : lv0.length = Y.2.2.1) (hd2 : d2 + 1 ≤ d) (hW : (rest.map fun v => v.category).sum ≤ 8) (g : mh_go P d2 Y 0 lv0 [] h r1 h1) {st2 : List Value} (hs2 : r1.toList ++ rest = st2) (k : mh_go P d M (pc + 3) lv st2 h1 r h') : mh_go P d M pc lv st h r h' :=
  mh_call hst hlv hlen hok hd2 hW g hs2 k (fun p l e R s m args below meth c H locs cells slots ls E hX hP hSS hM hR hf hpre hsz hW => by
    have hts := hX.2.2.2.2.2.2.2.1
    have hG := mh_good (Y := Y) hok.1
    have hcS : va_CS R s args M.1.cls index Y.1 Y.2.1 Y.2.2.1 Y.2.2.2 (Cond.code Y.1 Y.2.1 Y.2.2.1 Y.2.2.2 :: mh_T) (mh_rm d2 (mh_n h1 - mh_n h) (mh_z h1 - mh_z h)) (mh_n h1 - mh_n h) (mh_z h1 - mh_z h) n := by
      refine ⟨⟨rfl, rfl, hR.1, hR.2, pay_in hts hG, List.mem_cons_self⟩, hts _ hl, hts _ hsm, hts _ hsu, hts _ hi, hts _ hok.2.1, hts _ hok.1, hy, fun sig hq => ?_⟩
      rw [hq] at hp
      exact (Option.some.inj hp).symm
    exact va_runSU (C := mh_R ci) (b := mh_ad E b) (As := vs.map (mh_c E)) (hX.2.2.2.2.2.2.2.2.1.1.1 ci _ (mh_cl_get ci hci)).2 (mh_fix hX) hM hcS ⟨mh_blind, mh_recv hX.2.2.2.2.2.2.2.2.1 hP hci hk hb, hpre⟩ rfl (by rw [List.length_map]; exact hn) hsz (by rw [show (F0 m pc ls (st.map (mh_c E))).stack = _ from mh_rev hst]; simp [mh_c]) hW hd hf)
/-- super.m(..) where the superclass has m from above -/
theorem va_callPU {p : Program} {l : Launch} {e : Env} {R : Room} {s : State} {m : MethodId} {args : Array Value} {below : List Frame} {meth : Method} {c : Code} {T : State} {locs : List Loc} {cells slots : Nat} (X : Stand p l e R s m args below meth c T locs cells slots) (hexec : p.tables.exec = Jvm.exec) {own : String} {index : Nat} {x y : MethodName} {bytes : ByteArray} {maxL : Nat} {ret : Option FieldType}
    (hown : s.vm.findClass own = some m.cls) (hlink : (Cond.methodLink own index x).before args s = true) (hsame : (Cond.sameMethod x.cls y.cls x.name x.desc).before args s = true) (hyn : y = ⟨y.cls, x.name, x.desc⟩) (hsup : (Cond.superclass own x.cls).before args s = true) (hsup2 : (Cond.superclass x.cls y.cls).before args s = true)
    (hinst : (Cond.instanceMethod y).before args s = true) (hcode : (Cond.code y bytes maxL ret).before args s = true) (hno : x.name ≠ "<init>")
    {W : Nat} {Pre : Pt → Array Value → Prop} {Post : Pt → Array Value → Option Value → Pt → Prop} (hK : Back l R p e below s args y 3 W Pre Post)
    {b : Addr} {cellB : Cell} {kB : Class} (hcell : T.heap[b]? = some cellB) (hobj : cellB.vm.isStatics = false) (hkB : s.vm.classes[cellB.cls]? = some kB)
    {g : JFrame} (hg : g.method = m) (hsize : g.locals.size = c.maxLocals) {argsL rest : List Value} (hlen : ∀ sig, parseMethodDescriptor y.desc = some sig → argsL.length = sig.parameters.length)
    (hstack : g.stack = argsL.reverse ++ .ref b :: rest) (hW : 2 * g.monitorRoom + (rest.map fun v => v.category).sum ≤ W) (hdg : decode c.code g.pc = .ok (.invokespecial index, 3))
    (hpre : ∀ vm₁, s.WarmedH vm₁ → Pre ⟨T.setVm vm₁, locs, cells, slots⟩ (Value.ref b :: argsL).toArray) :
    ∃ (v : Option Value) (vm₁ : Vm) (B : Pt), s.WarmedH vm₁ ∧ Stand p l e R s m args below meth c B.U B.locs B.cells B.slots ∧ Post ⟨T.setVm vm₁, locs, cells, slots⟩ (Value.ref b :: argsL).toArray v B ∧
      ∀ target, Steps p.tables e below (B.U.setTop { g with pc := g.pc + 3, stack := v.toList ++ rest }) target → Steps p.tables e below (T.setTop g) target := by
  obtain ⟨mk, methM, hnamed, hmethM, hstM, habM⟩ := Cond.instanceMethod_spec hinst
  obtain ⟨methM', cM, hmethM', -, -, -, -, -, -, hsigM⟩ := Cond.code_spec hnamed hcode
  cases hmethM.symm.trans hmethM'
  obtain ⟨ps, dk, kp, hps, hdk, hkp, hsuper, -, -, hnid⟩ := Cond.superclass_spec hown hsup
  obtain ⟨pw, dx, kw, hpw, hdx, hkw, hsuper2, -, -, -⟩ := Cond.superclass_spec hps hsup2
  have hn : s.methodNamed? ⟨y.cls, x.name, x.desc⟩ = some mk := by rw [← hyn]; exact hnamed
  have hpm : pw = mk.cls := Option.some.inj (hpw.symm.trans (findClass_of_methodNamed hnamed))
  have hsub : s.vm.isSubclass ps mk.cls = true := by
    rw [← hpm]
    have hpos : 0 < s.vm.classes.size := Nat.lt_of_le_of_lt (Nat.zero_le _) (Array.getElem?_eq_some_iff.mp hdx).1
    obtain ⟨k, hk⟩ : ∃ k, s.vm.classes.size = k + 1 := ⟨s.vm.classes.size - 1, by omega⟩
    unfold Vm.isSubclass
    rw [hk]
    simp [Vm.isSubclassAux, hdx, hsuper2]
  obtain ⟨vm₁, X₁, hstep₁⟩ := X.invokespecialUp hexec hown hlink hsame hn hmethM hstM habM hno hdk hnid hps hsuper hsub (a := b) (cell := cellB) hcell
    (fun z h => by rw [h] at hobj; cases hobj) hkB (g := g) hg (argsL := argsL) (rest := rest) (hlen _ hsigM) hstack hdg
  obtain ⟨v, B, X', hpost, hsteps⟩ := hK m meth c ⟨T.setVm vm₁, locs, cells, slots⟩ { g with stack := rest } (.invokespecial index) mk (Value.ref b :: argsL).toArray X₁ hg hsize hdg hW (X₁.named hnamed) (hpre vm₁ X₁.warmed)
  exact ⟨v, vm₁, B, X₁.warmed, X', hpost, fun target h => hstep₁ _ (by rw [doInvoke_state]; exact hsteps.trans h)⟩
theorem st_invPU {d2 index n b ci : Nat} {x : MethodName} {Y : mh_M} {vs st : List Value} {r1 : Option Value} {h1 : mh_H} {lv0 : List (Option Value)} (hd : decode M.2.1 pc = .ok (.invokespecial index, 3)) (hok : mh_mok Y) (hci : ci < 13) (hk : mh_k h b = ci + 2) (hb : b < mh_n h) (hl : Cond.methodLink M.1.cls index x ∈ mh_T) (hsm : Cond.sameMethod x.cls Y.1.cls x.name x.desc ∈ mh_T) (hyn : Y.1 = ⟨Y.1.cls, x.name, x.desc⟩) (hsu : Cond.superclass M.1.cls x.cls ∈ mh_T) (hsu2 : Cond.superclass x.cls Y.1.cls ∈ mh_T) (hi : Cond.instanceMethod Y.1 ∈ mh_T) (hy : x.name ≠ "<init>") (hp : (parseMethodDescriptor Y.1.desc).map (fun d => d.parameters.length) = some n) (hn : vs.length = n) (hst : st = (.ref b :: vs).reverse ++ rest) (hlv : mh_pad Y.2.2.1 (mh_args (.ref b :: vs)) = lv0) (hlen : lv0.length = Y.2.2.1) (hd2 : d2 + 1 ≤ d) (hW : (rest.map fun v => v.category).sum ≤ 8) (g : mh_go P d2 Y 0 lv0 [] h r1 h1) {st2 : List Value} (hs2 : r1.toList ++ rest = st2) (k : mh_go P d M (pc + 3) lv st2 h1 r h') : mh_go P d M pc lv st h r h' :=
  mh_call hst hlv hlen hok hd2 hW g hs2 k (fun p l e R s m args below meth c H locs cells slots ls E hX hP hSS hM hR hf hpre hsz hW => by
    have hts := hX.2.2.2.2.2.2.2.1
    have hG := mh_good (Y := Y) hok.1
    have hKb : Back l R p e below s args Y.1 3 8 (PreOf R (mh_n h1 - mh_n h) (mh_z h1 - mh_z h) (mh_Pc P _ _ h)) (PostOf (mh_Q _ r1 h1) (mh_n h1 - mh_n h) (mh_z h1 - mh_z h) (mh_A _)) := back_of (bytes := Y.2.1) (maxL := Y.2.2.1) (ret := Y.2.2.2) hM mh_blind rfl rfl hR.1 hR.2 (pay_in hts hG) List.mem_cons_self (fun a' U hW => word_at hW (Or.inl (by first | rfl | simp [Cond.onTables, Cond.keeps, Cond.steady])) (hts _ hok.2.1))
    obtain ⟨cellB, hcB, hoB, hclB⟩ := mh_recv hX.2.2.2.2.2.2.2.2.1 hP hci hk hb
    obtain ⟨hfc, kB, hkB, -⟩ := (hX.2.2.2.2.2.2.2.2.1.1.1 ci _ (mh_cl_get ci hci)).2
    have hcc : cellB.cls = (mh_D E).1 ci := Option.some.inj (hclB.symm.trans hfc)
    rw [← hcc] at hkB
    intro T hT X
    obtain ⟨v, vm₁, ⟨U', l2, c2, s2⟩, hW₁, X', ⟨g', mk, t, L, e1, e2, hq, h1, hL, h2, h3⟩, st⟩ := va_callPU X hX.1 (bytes := Y.2.1) (maxL := Y.2.2.1) (ret := Y.2.2.2) hX.2.2.2.2.2.1 (hts _ hl) (hts _ hsm) hyn (hts _ hsu) (hts _ hsu2) (hts _ hi) (hts _ hok.1) hy hKb (by rw [hT]; exact hcB) hoB hkB (g := F0 m pc ls (st.map (mh_c E))) rfl (hsz.trans hX.2.2.1.symm) (argsL := vs.map (mh_c E)) (rest := rest.map (mh_c E)) (fun sig hq => by
        rw [hq] at hp
        rw [List.length_map, hn]
        exact (Option.some.inj hp).symm) (by rw [show (F0 m pc ls (st.map (mh_c E))).stack = _ from mh_rev hst]; simp [mh_c]) hW (by rw [hX.2.1]; exact hd)
      (fun vm₁ hW₁ => ⟨hf.1, hf.2, hpre (T.setVm vm₁) hT hW₁⟩)
    dsimp only [Pt.U, Pt.locs, Pt.cells, Pt.slots] at X' e1 e2 h1 h2 h3 st
    subst h1; subst h2; subst h3
    exact ⟨v, (T.setVm vm₁).calling g' mk _, t, U', L, hT, X', hL, e1, e2, hq, st⟩)
theorem st_obj {index k : Nat} (hd : decode M.2.1 pc = .ok (.invokespecial index, 3)) (hl : Cond.methodLink M.1.cls index objectInit ∈ mh_T) (hi : Cond.instanceMethod objectInit ∈ mh_T) (hc : Cond.code objectInit ⟨#[0xb1]⟩ 1 none ∈ mh_T) (hd1 : 1 ≤ d) (hW : (rest.map fun v => v.category).sum ≤ 8) (kk : mh_go P d M (pc + 3) lv rest h r h') : mh_go P d M pc lv (.ref k :: rest) h r h' :=
  mh_chg (h2 := h) rfl rfl kk (fun p l e R s m args below meth c H locs cells slots ls E Q hPE hX hv hP hS hf hlo w => W.objInit hX.1 hX.2.1 hX.2.2.2.2.2.1 (hX.2.2.2.2.2.2.2.1 _ hl) (hX.2.2.2.2.2.2.2.1 _ hi) (hX.2.2.2.2.2.2.2.1 _ hc) rfl (hv.1.trans hX.2.2.1.symm) rfl hd (by omega) (by
    have e : ((rest.map (mh_c E)).map fun v => v.category).sum ≤ 8 := by rw [mh_c_cats]; exact hW
    show 2 * 0 + ((rest.map (mh_c E)).map fun v => v.category).sum + 12 ≤ R.locals
    omega) (w H locs hP hS))
end MHK
