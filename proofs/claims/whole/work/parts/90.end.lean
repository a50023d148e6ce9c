/-! THE CLAIM OUT OF ONE WALK OF THE LAW'S BODY. Your part is whole_start (and what it stands on); all else here is the same for every law, but numbers. -/
def R_law : String := "HoleWaterLaw"
def lw_P (b : Addr) (xs : List Int32) (args : Array Value) (s : State) : Prop := args = #[.ref b] ∧ s.IntsAt b xs ∧ xs.length ≤ 384 ∧ (Jvm.Cond.and given_1 narrow_1).before args s = true
def lw_Q (_ : Array Value) (s : State) (o : Outcome) (t : State) : Prop := o = .returned (some (.int 1)) ∧ Framed s o t [] 600000 7302250
def lw_Z (below : List Frame) (a : Array Value) (s : State) : State → Prop := fun t => ∃ o, t.status = .running ∧ Ended t below o ∧ lw_Q a s o t
/-- the law's own end, with 1 on the stack, nothing written that was there before, its room as the claim has it -/
theorem lw_ret {p : Program} {l : Launch} {e : Env} {s : State} {m : MethodId} {below : List Frame} {meth : Method} {c : Code} {b : Nat} (hx : p.tables.exec = Jvm.exec) (hb : c.code = code) (hr : meth.sig.returnType = ret) (hlocks : meth.locks = false) {pc : Nat} {H : Heap} {ls : Array Slot} (hdg : decode code pc = .ok (.ireturn, 1)) : W p l e room_1 s m #[Value.ref b] below meth c H [] 600000 7302250 (lw_Z below #[Value.ref b] s) (F0 m pc ls [.int 1]) := by
  intro T hT X
  obtain ⟨fs, hret, hrun, hended, hW, hframe⟩ := X.leave (v := some (.int 1)) (hlocks := hlocks) (fun h => by rw [hr] at h; cases h)
  have hmeth' : T.vm.method? m = some meth := X.method'
  refine ⟨T.setFrames fs, ?_, .returned (some (.int 1)), hrun, hended, rfl, ⟨_, rfl⟩, hW, hframe⟩
  jvm_step X.here [X.here.top, hx, hb, hdg, hmeth', hr, ret, narrow_b1]
  (try refine ⟨rfl, ?_⟩); (try refine ⟨rfl, ?_⟩)
  first | (intro acts; rw [hret _ acts rfl rfl rfl]) | rw [hret _ _ rfl rfl rfl]
  exact Steps.refl _
/-- what holds at the law's entry: the machine, the code, the tables' words (any of lw_tbl by 'hts w (by decide +kernel)'), the script of L ints xs at the cell b, what the Statement gives of the start (any of its parts by flat_of_before) -/
def lw_At (p : Program) (s : State) (m : MethodId) (meth : Method) (c : Code) (b L : Nat) (xs : Nat → Int32) : Prop :=
  p.tables.exec = Jvm.exec ∧ c.code = code ∧ meth.sig.returnType = ret ∧ c.maxLocals = 4 ∧ s.vm.findClass R_law = some m.cls ∧ (∀ w ∈ lw_tbl, w.before #[Value.ref b] s = true) ∧ va_X b L xs s s.heap ∧ b < s.heap.size ∧ meth.locks = false ∧ (Jvm.Cond.and given_1 narrow_1).before #[Value.ref b] s = true ∧ meth.name = "law"
def lw_tm (i : Nat) : Term := match i with
  | 0 => .string "HoleWater" 239
  | _ => .string "HoleWater" 241
theorem lw_two {Pr : Nat → Prop} (h0 : Pr 0) (h1 : Pr 1) : ∀ i, i < 2 → Pr i := fun i hi => by
  match i, hi with
  | 0, _ => exact h0
  | 1, _ => exact h1
  | n + 2, h => omega
theorem lw_four {Pr : Nat → Prop} (h0 : Pr 0) (h1 : Pr 1) (h2 : Pr 2) (h3 : Pr 3) : ∀ i, i < 4 → Pr i := fun i hi => by
  match i, hi with
  | 0, _ => exact h0
  | 1, _ => exact h1
  | 2, _ => exact h2
  | 3, _ => exact h3
  | n + 4, h => omega
theorem lw_three {Pr : Nat → Prop} (h0 : Pr 0) (h1 : Pr 1) (h2 : Pr 2) : ∀ i, i < 3 → Pr i := fun i hi => by
  match i, hi with
  | 0, _ => exact h0
  | 1, _ => exact h1
  | 2, _ => exact h2
  | n + 3, h => omega
set_option maxRecDepth 100000 in
theorem lw_nocB : mh_noc.all (fun q => decide (Cond.not (.castable q.1 q.2) ∈ flatC (Jvm.Cond.and given_1 narrow_1))) = true := by decide +kernel
set_option maxHeartbeats 4000000 in
set_option maxRecDepth 100000 in
/-- what is outside, at the law's start -/
theorem lw_env {s : State} {b L : Nat} {xs : Nat → Int32} (hts : ∀ w ∈ lw_tbl, w.before #[Value.ref b] s = true) (hX : va_X b L xs s s.heap) (hbl : b < s.heap.size) (hgv : (Jvm.Cond.and given_1 narrow_1).before #[Value.ref b] s = true) : ∃ E : mh_E, mh_KU E s ∧ mh_SH E s s.heap ∧ mh_sz E = s.heap.size ∧ mh_pre E 0 = b ∧ mh_L E = L ∧ mh_xs E = xs := by
  have hs := flat_of_before _ hgv
  have htT : ∀ w ∈ mh_T, w.before #[Value.ref b] s = true := fun w hw => hts w (List.mem_filter.mp hw).1
  -- classes
  have hKn : ∀ ci, ∃ q : ClassId × (Nat → Nat), ci < 13 → u_Kn s (mh_R ci) (mh_TT ci) (mh_N ci) q.1 q.2 := by
    intro ci
    by_cases hc : ci < 13
    · have hin : (Cond.instantiable (mh_R ci) (mh_N ci)).before #[Value.ref b] s = true := hts _ (mh_c13 (P := fun ci => Cond.instantiable (mh_R ci) (mh_N ci) ∈ lw_tbl) (by
        refine ⟨?_, ?_, ?_, ?_, ?_, ?_, ?_, ?_, ?_, ?_, ?_, ?_, ?_⟩ <;> exact List.mem_append_right _ (by decide +kernel)) ci hc)
      obtain ⟨c, iS, h⟩ := u_known (C := mh_R ci) (T := mh_TT ci) (N := mh_N ci) (n := mh_N ci) htT (mh_lay ci hc) hin
      exact ⟨(c, iS), fun _ => h⟩
    · exact ⟨(0, fun _ => 0), fun h => absurd h hc⟩
  obtain ⟨dq, hdq⟩ := Classical.axiomOfChoice hKn
  -- arrays
  obtain ⟨cI, kI, compI, i1, i2, i3⟩ := Cond.arrayClass_spec (hts (.arrayClass .int) (List.mem_append_right _ mh_arrI))
  have hao : va_AO RX9 s := va_AO.of (hts (.arrayOver (.object RX9)) (List.mem_append_right _ (by decide +kernel)))
  obtain ⟨comp, cW, kW, w1, w2, w3, w4, w5⟩ := Cond.arrayOver_spec hao
  -- texts
  obtain ⟨adK, adV, hSt, hev⟩ := vk_Sof (args := #[Value.ref b]) (s := s) (N := 2) (tm := lw_tm) (len := mh_len) (byt := mh_byt) (A := fun q => s.heap.size ≤ q) (lw_two (by decide) (by decide)) (lw_two (hs _ (by decide +kernel)) (hs _ (by decide +kernel))) (lw_two (hs _ (by decide +kernel)) (hs _ (by decide +kernel))) (lw_two (hs _ (by decide +kernel)) (hs _ (by decide +kernel))) (lw_two (hs _ (by decide +kernel)) (hs _ (by decide +kernel)))
    (lw_two (lw_four (hs _ (by decide +kernel)) (hs _ (by decide +kernel)) (hs _ (by decide +kernel)) (hs _ (by decide +kernel))) (lw_three (hs _ (by decide +kernel)) (hs _ (by decide +kernel)) (hs _ (by decide +kernel))))
    (lw_two (Pr := fun i => ∀ j : Nat, i < 2 → j < 2 → i ≠ j → _) (fun j _ hj hne => by
      have : j = 1 := by omega
      subst this
      exact Or.inl (hs _ (by decide +kernel))) (fun j _ hj hne => by
      have : j = 0 := by omega
      subst this
      exact Or.inr (hs _ (by decide +kernel)))
      |> fun f i j hi hj hne => f i hi j hi hj hne)
    (fun a h1 h2 => absurd h1 (Nat.not_lt.mpr h2))
  have e0 : (Term.string "HoleWater" 239).eval #[Value.ref b] s none [] s = some (.ref (adK 0)) := hev 0 (by decide)
  have e1 : (Term.string "HoleWater" 241).eval #[Value.ref b] s none [] s = some (.ref (adK 1)) := hev 1 (by decide)
  have hZ := va_Zof (A := fun q => s.heap.size ≤ q) (hts (.laysStatic "java/lang/String" "COMPACT_STRINGS" "Z") (List.mem_append_right _ (by decide +kernel))) (hts (.initialized "java/lang/String") (List.mem_append_right _ (by decide +kernel))) (va_eqt (z := 1) (hs _ (by decide +kernel))) (fun a h1 h2 => absurd h1 (Nat.not_lt.mpr h2))
  let pre : Nat → Nat := fun k => if k = 0 then b else if k < 3 then adK (k - 1) else adV (k - 3)
  have p1 : (fun i => pre (1 + i)) 0 = adK 0 := rfl
  refine ⟨((fun k => (dq k).1, fun k => (dq k).2), cI, cW, s.heap.size, pre, adV, L, xs), ⟨⟨fun ci q hq => ?_, fun k q hq => ?_⟩, fun w hw => ?_, fun q hq => ?_, hao, fun q hq => ?_⟩, ⟨⟨fun i hi => ?_, fun i j hi hj hij => ?_⟩, hZ, hX, hbl⟩, rfl, rfl, rfl, rfl⟩
  · have hc : ci < 13 := (List.getElem?_eq_some_iff.mp hq).1
    rw [mh_cl_get ci hc] at hq
    cases hq
    exact hdq ci hc
  · match k, hq with
    | 0, hq =>
      cases hq
      exact ⟨fun n z => ⟨fun k h => (by cases h), kI, i2, compI, i3⟩, i1⟩
    | 1, hq =>
      cases hq
      exact ⟨fun n z => ⟨fun k h => (by cases h), kW, w3, comp, w4⟩, kW, comp, w3, w4, w1, w5⟩
    | n + 2, hq => simp at hq
  · obtain ⟨hw1, hw2⟩ := List.mem_filter.mp hw
    have hb := hts w hw1
    rcases mh_nest_form w hw with ⟨a, i, x, g, rfl⟩ | ⟨a, c, rfl⟩
    · exact va_Nw.of rfl hb
    · exact va_Nw.of rfl hb
  · exact va_Nc.of (hs _ (of_decide_eq_true (List.all_eq_true.mp lw_nocB q hq)))
  · simp only [mh_str, List.mem_cons, List.not_mem_nil, or_false] at hq
    rcases hq with rfl | rfl | rfl
    · exact vk_R.of (A := #[Value.ref b]) (hts _ (List.mem_append_right _ (by decide +kernel))) (va_eqv (hs (.eq (.string "HoleWater$Reader" 37) (.string "HoleWater" 239)) (by decide +kernel)) e0)
    · exact vk_R.of (A := #[Value.ref b]) (hts _ (List.mem_append_right _ (by decide +kernel))) e0
    · exact vk_R.of (A := #[Value.ref b]) (hts _ (List.mem_append_right _ (by decide +kernel))) e1
  · have e2 : pre (1 + i) = adK i := by
      show (if 1 + i = 0 then b else if 1 + i < 3 then adK (1 + i - 1) else adV (1 + i - 3)) = adK i
      rw [if_neg (by omega), if_pos (by omega), show 1 + i - 1 = i by omega]
    have e3 : pre (3 + i) = adV i := by
      show (if 3 + i = 0 then b else if 3 + i < 3 then adK (3 + i - 1) else adV (3 + i - 3)) = adV i
      rw [if_neg (by omega), if_neg (by omega), show 3 + i - 3 = i by omega]
    have := hSt.1 i hi
    rw [← e2, ← e3] at this
    exact this
  · refine hSt.2 i j hi hj ?_
    have e2 : ∀ i, i < 2 → pre (1 + i) = adK i := fun i hi => by
      show (if 1 + i = 0 then b else if 1 + i < 3 then adK (1 + i - 1) else adV (1 + i - 3)) = adK i
      rw [if_neg (by omega), if_pos (by omega), show 1 + i - 1 = i by omega]
    rw [← e2 i hi, ← e2 j hj]
    exact hij
set_option maxHeartbeats 4000000 in
set_option maxRecDepth 100000 in
/-- THE LAW, from its entry -/
theorem whole_start {p : Program} {e : Env} {s : State} {m : MethodId} {below : List Frame} {meth : Method} {c : Code} (l : Launch) {b L : Nat} {xs : Nat → Int32} (hL : L ≤ 384) (C0 : lw_At p s m meth c b L xs) : W p l e room_1 s m #[Value.ref b] below meth c s.heap [] 0 0 (lw_Z below #[Value.ref b] s) (entryFrame m ([Value.ref b] : List Value).toArray 4) := by
  obtain ⟨hx, hb, hr, hml, hown, hts, hX, hbl, hlocks, hgv, hnm⟩ := id C0
  obtain ⟨E, hKU, hSH, hsz, hpre, hEL, hEx⟩ := lw_env hts hX hbl hgv
  obtain ⟨N, h', hq, hn, hz⟩ := pure_law L xs hL
  have hgo := T_L_law (P := fun E => mh_L E = L ∧ mh_xs E = xs) (N := N) (d := 1000) (by decide) (fun _ h => h) hq
  have hl := lv_entry ([.ref b]) (n := 4) (Nat.le_of_ble_eq_true rfl)
  rw [lg_entry_eq]
  have hP0 : mh_P E mh_0 s.heap := ⟨by rw [hsz]; rfl, by decide, fun k q hq => by simp [mh_ws, mh_n, mh_0] at hq⟩
  have w := hgo.2 p l e room_1 s m #[Value.ref b] below meth c s.heap [] 0 0 _ E 0 0 (mh_n h') (mh_z h') ⟨hEL, hEx⟩ ⟨hx, hb, hml, hr, hlocks, hown, ?_, fun w hw => hts w (List.mem_filter.mp hw).1, hKU, hSH, by rw [hsz]; exact Nat.le_refl _⟩ (by decide) (by decide) (by show mh_n h' ≤ 600000 + 0; omega) (by show mh_z h' ≤ 7302250 + 0; omega) hP0 va_S.rf ⟨hl.1, hl.2.1, fun q hq => hl.2.2 q ?_⟩ rfl rfl rfl rfl rfl
  · intro T hT X
    obtain ⟨t, a1, o, b1, b2, ⟨b3, -, -⟩, Lc, hF, hLc⟩ := w T hT X
    refine ⟨t, a1, o, b1, b2, b3, hF.1, hF.2.1, hF.2.2.weaken (fun y hy hlt => absurd hlt (Nat.not_lt.mpr ?_)) (by omega) (by omega)⟩
    have := hLc y hy
    rw [← hsz]; exact this
  · exact hnm
  · obtain ⟨i, w⟩ := q
    obtain ⟨v, h1, rfl⟩ := mh_as_mem.mp hq
    have hi : i < 4 := (List.getElem?_eq_some_iff.mp h1).1
    match i, hi, h1 with
    | 0, _, h1 =>
      simp at h1
      subst h1
      have e : mh_c E (.ref 1000000000) = .ref b := by
        show Value.ref (mh_ad E 1000000000) = _
        rw [show (1000000000 : Nat) = 1000000000 + 0 from rfl, mh_adT, hpre]
      rw [e]
      exact List.mem_cons_self
    | 1, _, h1 => simp at h1
    | 2, _, h1 => simp at h1
    | 3, _, h1 => simp at h1
set_option maxHeartbeats 4000000 in
theorem lw_walk (l : Launch) (b : Addr) (xs : List Int32) : MetFree l x (headSpec (Jvm.Cond.code x code maxLocals ret :: tables_1) room_1) (lw_P b xs) (fun _ _ _ _ _ => True) lw_Q := by
  refine MetFree.of_bodyS (code := code) (maxLocals := maxLocals) (ret := ret) (by decide) ?_ ?_
  · intro args s m h hn
    obtain ⟨meth, c, h1, h2, h3, h4, h5, h6, -, -⟩ := Cond.code_spec hn (atoms_spec (ws := Jvm.Cond.code x code maxLocals ret :: tables_1) h _ List.mem_cons_self)
    exact ⟨meth, c, h1, h2, h3, h4, h5, h6⟩
  · intro p e s m args below meth c s₁ B hml0 hP _
    obtain ⟨rfl, hx, hbd, hgv⟩ := hP
    obtain ⟨scr, harrAt, hlist, hof, hsmall⟩ := hx
    obtain ⟨hcb, hkn, -, -⟩ := State.arrayAt?_spec harrAt
    have hown : s.vm.findClass R_law = some m.cls := findClass_of_methodNamed B.named
    have hts0 : ∀ c ∈ (Jvm.Cond.code x code maxLocals ret :: tables_1), c.before #[Value.ref b] s = true := atoms_spec (ws := Jvm.Cond.code x code maxLocals ret :: tables_1) B.pre
    have hts : ∀ w ∈ lw_tbl, w.before #[Value.ref b] s = true := k2_hts_sels lw_privs (fun w hw => hts0 w (List.mem_cons_of_mem _ hw)) lw_privs_ok
    have hml : c.maxLocals = 4 := B.maxLocals_eq (hts0 _ List.mem_cons_self)
    have X₀ : Stand p l e room_1 s m #[Value.ref b] below meth c s₁ [] 0 0 := Stand.of_body B
    have hh0 : s₁.heap = s.heap := by rw [B.state]; rfl
    have hsz : scr.slots.size = xs.length := by rw [← Array.length_toList, hlist, List.length_map]
    have hval : ∀ j : Nat, j < xs.length → scr.slots[j]? = some (.int (xs.getD j 0)) := fun j hj => by
      rw [← Array.getElem?_toList, hlist]
      simp [hj]
    have hbl : b < s.heap.size := (Array.getElem?_eq_some_iff.mp hcb).1
    have hX : va_X b xs.length (fun j => xs.getD j 0) s s.heap := ⟨scr, hcb, hof, hkn, hsz, hval⟩
    have K : W p l e room_1 s m #[Value.ref b] below meth c s₁.heap [] 0 0 (lw_Z below #[Value.ref b] s) (entryFrame m ([Value.ref b] : List Value).toArray 4) := by
      rw [hh0]
      exact whole_start l hbd ⟨B.exec, B.bytes, B.returns, hml, hown, hts, hX, hbl, B.notSynchronized, hgv, (name_of_methodNamed B.named B.method).1⟩
    obtain ⟨t, a1, o, b1, b2, b3⟩ := K s₁ rfl X₀
    exact ⟨t, o, a1, b1, b2, b3⟩
theorem lw_pre_spec {args : Array Value} {s : State} (h : (Jvm.Cond.and given_1 narrow_1).before args s = true) (hr : rest_1_c.before args s = true) : ∃ (b : Addr) (xs : List Int32), lw_P b xs args s := by
  have hs := flat_of_before _ h
  have hq := flat_of_before _ hr
  have hc : (Cond.count 1).before args s = true := hs _ (by decide +kernel)
  have harr : (Cond.arrayOf (.arg 0) .int).before args s = true := hs _ (by decide +kernel)
  have hle : (Cond.le (.length (.arg 0)) (.int 384)).before args s = true := hs _ (by decide +kernel)
  have hlen : (Cond.isInt (.length (.arg 0))).before args s = true := hq _ (by decide +kernel)
  have hall : (Cond.all (.arg 0) (.isInt (.elem (.arg 0) (.index 0)))).before args s = true := hq _ (by decide +kernel)
  obtain ⟨b, xs, hb, hx⟩ := State.ints_of_pre rfl harr hlen hall
  have hsm : xs.length < 2 ^ 31 := hx.choose_spec.2.2.2
  have hev : (Term.length (.arg 0)).eval args s none [] s = some (.int xs.length.toInt32) := hx.length_eval hb
  have hv := Cond.le_ints hev (show (Term.int 384).eval args s none [] s = some (.int 384) from rfl)
  have hd : xs.length.toInt32 ≤ 384 := by
    simpa [Cond.before, Cond.holds, hv] using hle
  have hN : xs.length ≤ 384 := (Int32.ofNat_le_ofNat hsm (by decide)).mp (show Int32.ofNat xs.length ≤ Int32.ofNat 384 from hd)
  exact ⟨b, xs, Cond.one_arg hc (show args[0]? = some (.ref b) from hb), hx, hN, h⟩
theorem lw_comes (l : Launch) : Comes l x (Jvm.Cond.code x code maxLocals ret :: tables_1) room_1 (fun tb e args s => Calls_1 tb e args s ∧ rest_1 tb e args s ∧ Pre_1 tb e args s)
    (fun _ _ args s o t => lw_Q args s o t) := by
  intro p e ha hc hk s m args below hf hfit hheap happ hpre
  obtain ⟨b, xs, hP⟩ := lw_pre_spec hpre.2.2 hpre.2.1
  obtain ⟨k, o, h1, h2, h3, hQ⟩ := lw_walk l b xs p e ha hc hk s m args below hf ((Spec.applies_iff_loose hf).mp happ).1 hP trivial
  exact ⟨k, o, h1, h2, h3, hQ⟩
theorem lw_frame {s t : State} {o : Outcome} {args : Array Value} (h : Framed s o t [] 600000 7302250) :
    Framed s o t (fieldLocs frame_1_writes args s ++ arrayLocs frame_1_arrays args s ++ staticLocs frame_1_statics s) 600000 7302250 := h
theorem lw_limb (L : Cond) (hL : ∀ (args : Array Value) (s t : State), L.after args s (.returned (some (.int 1))) t = true) :
    ArmFor flags0 classFile x code maxLocals ret World_1 tables_1 room_1 Calls_1 rest_1 Pre_1
      (fun tb e a s o t => postC L tb e a s o t ∧ Framed s o t (fieldLocs frame_1_writes a s ++ arrayLocs frame_1_arrays a s ++ staticLocs frame_1_statics s) 600000 7302250) := by
  intro l _ _ _ p e ha hc hk s m args below hf hfit hheap happ hpre
  obtain ⟨k, o, h1, h2, h3, rfl, hF⟩ := lw_comes l p e ha hc hk s m args below hf hfit hheap happ hpre
  exact ⟨k, _, h1, h2, h3, hL args s _, lw_frame hF⟩
theorem i_vc : Claimed_1_1 ∧ Claimed_1_2 := ⟨lw_limb limb_1_1 (fun args s t => by simp [limb_1_1, Cond.after, Cond.holds, Cond.value]), lw_limb limb_1_2 (fun args s t => Cond.after_iff.mpr (by
  first | (rw [show limb_1_2 = Cond.eq .result (.int 1) from rfl, Cond.eq_ints (x := 1) (y := 1) rfl rfl]; simp; done) | (simp [limb_1_2, Cond.value, Term.eval]; done)))⟩
