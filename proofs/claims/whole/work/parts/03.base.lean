/-! THE PLAIN MACHINE: a heap of numbered cells, apart from the machine's own; 'mh_go' says that the method, from here on, returns so -/
def mh_T : List Cond := lw_tbl.filter goodWord
theorem mh_T_in {w : Cond} (h : w ∈ lw_tbl) (hg : goodWord w = true) : w ∈ mh_T := List.mem_filter.mpr ⟨h, hg⟩
theorem mh_T_good : ∀ w ∈ mh_T, (w.onTables && w.keeps) = true ∨ ∃ ty, w = .arrayClass ty := fun _ h => good_of_word (List.mem_filter.mp h).2
abbrev mh_cl : List vw_C := [(RX0, TX0, 4), (RX1, TX1, 8), (RX2, TX2, 4), (RX3, TX3, 4), (RX4, TX4, 4), (RX5, TX5, 9), (RX6, TX6, 2), (RX7, TX7, 4), (RX8, TX8, 12), (RX9, TX9, 4), (RX10, TX10, 13), (RX11, TX11, 11), (RX12, TX12, 30)]
def mh_ty (ci : Nat) : Nat → FieldType := match ci with
  | 0 => tyX0
  | 1 => tyX1
  | 2 => tyX2
  | 3 => tyX3
  | 4 => tyX4
  | 5 => tyX5
  | 6 => tyX6
  | 7 => tyX7
  | 8 => tyX8
  | 9 => tyX9
  | 10 => tyX10
  | 11 => tyX11
  | _ => tyX12
def mh_N (ci : Nat) : Nat := match ci with
  | 0 => 4
  | 1 => 8
  | 2 => 4
  | 3 => 4
  | 4 => 4
  | 5 => 9
  | 6 => 2
  | 7 => 4
  | 8 => 12
  | 9 => 4
  | 10 => 13
  | 11 => 11
  | _ => 30
def mh_isr (ci j : Nat) : Bool := match mh_ty ci j with
  | .int => false
  | .boolean => false
  | _ => true
/-- cells, slots, the kind of each cell (0 ints, 1 ways, 2 and a class's number), its length, its ints, its references -/
abbrev mh_H : Type := Nat × Nat × (Nat → Nat) × (Nat → Nat) × (Nat → Nat → Int32) × (Nat → Nat → Option Nat)
def mh_n (h : mh_H) : Nat := h.1
def mh_z (h : mh_H) : Nat := h.2.1
def mh_k (h : mh_H) : Nat → Nat := h.2.2.1
def mh_l (h : mh_H) : Nat → Nat := h.2.2.2.1
def mh_i (h : mh_H) : Nat → Nat → Int32 := h.2.2.2.2.1
def mh_r (h : mh_H) : Nat → Nat → Option Nat := h.2.2.2.2.2
/-- what is outside: the tables' numbers, the classes of int rows and way rows, the heap's size at the law's start, the addresses of script and texts, the texts' byte rows, the script -/
abbrev mh_E : Type := va_G × ClassId × ClassId × Nat × (Nat → Nat) × (Nat → Nat) × Nat × (Nat → Int32)
def mh_D (E : mh_E) : va_G := E.1
def mh_cI (E : mh_E) : ClassId := E.2.1
def mh_cW (E : mh_E) : ClassId := E.2.2.1
def mh_sz (E : mh_E) : Nat := E.2.2.2.1
def mh_pre (E : mh_E) : Nat → Nat := E.2.2.2.2.1
def mh_aV (E : mh_E) : Nat → Nat := E.2.2.2.2.2.1
def mh_L (E : mh_E) : Nat := E.2.2.2.2.2.2.1
def mh_xs (E : mh_E) : Nat → Int32 := E.2.2.2.2.2.2.2
def mh_ad (E : mh_E) (k : Nat) : Nat := if k < 1000000000 then mh_sz E + k else mh_pre E (k - 1000000000)
def mh_c (E : mh_E) (v : Value) : Value := match v with
  | .ref k => .ref (mh_ad E k)
  | x => x
theorem mh_c_cat (E : mh_E) (v : Value) : (mh_c E v).category = v.category := by cases v <;> rfl
theorem mh_c_cats (E : mh_E) (vs : List Value) : ((vs.map (mh_c E)).map fun v => v.category).sum = (vs.map fun v => v.category).sum := by
  rw [List.map_map]; congr 1; exact List.map_congr_left fun v _ => mh_c_cat E v
def mh_fv (E : mh_E) (h : mh_H) (ci k j : Nat) : Value := if mh_isr ci j = true then va_rf ((mh_r h k j).map (mh_ad E)) else .int (mh_i h k j)
def mh_cell (E : mh_E) (h : mh_H) (k : Nat) : va_E := match mh_k h k with
  | 0 => .inl (mh_cI E, mh_l h k, .inl (mh_i h k))
  | 1 => .inl (mh_cW E, mh_l h k, .inr (.inr (.inr (.inr (fun j => (mh_r h k j).map (mh_ad E))))))
  | ci + 2 => .inr (ci, (List.range (mh_N ci)).map (mh_fv E h ci k))
def mh_ws (E : mh_E) (h : mh_H) : va_W := (List.range (mh_n h)).map (fun k => (mh_ad E k, mh_cell E h k))
theorem mh_ws_get {E : mh_E} {h : mh_H} {k : Nat} (hk : k < mh_n h) : (mh_ws E h)[k]? = some (mh_ad E k, mh_cell E h k) := by
  simp [mh_ws, hk]
theorem mh_ws_some {E : mh_E} {h : mh_H} {k : Nat} {q : Nat × va_E} (hq : (mh_ws E h)[k]? = some q) : k < mh_n h ∧ q = (mh_ad E k, mh_cell E h k) := by
  have hk : k < mh_n h := by
    have h1 := (List.getElem?_eq_some_iff.mp hq).1
    simpa [mh_ws] using h1
  rw [mh_ws_get hk] at hq
  exact ⟨hk, (Option.some.inj hq).symm⟩
def mh_A (E : mh_E) : Nat → Prop := fun q => mh_sz E ≤ q
theorem mh_ad_lt {E : mh_E} {k : Nat} (h : k < 1000000000) : mh_ad E k = mh_sz E + k := if_pos h
def mh_P (E : mh_E) (h : mh_H) (H : Heap) : Prop := H.size = mh_sz E + mh_n h ∧ mh_n h ≤ 1000000000 ∧ va_P (mh_D E) mh_cl (mh_ws E h) H
theorem mh_dis {E : mh_E} {h : mh_H} (hn : mh_n h ≤ 1000000000) : va_D (mh_A E) (mh_ws E h) := by
  refine ⟨fun i j p q hp hq hpq => ?_, fun k q hq => ?_⟩
  · obtain ⟨hi, rfl⟩ := mh_ws_some hp
    obtain ⟨hj, rfl⟩ := mh_ws_some hq
    rw [mh_ad_lt (by omega), mh_ad_lt (by omega)] at hpq
    omega
  · obtain ⟨hk, rfl⟩ := mh_ws_some hq
    show mh_sz E ≤ mh_ad E k
    rw [mh_ad_lt (by omega)]
    omega
theorem mh_rset {α : Type} {N k : Nat} {f f' : Nat → α} {v : α} (h1 : f' k = v) (h2 : ∀ i, i ≠ k → f' i = f i) : ((List.range N).map f).set k v = (List.range N).map f' := by
  apply List.ext_getElem?
  intro i
  rw [List.getElem?_set]
  by_cases hik : k = i
  · subst hik
    by_cases hN : k < N
    · simp [hN, h1]
    · simp [hN]
  · rw [if_neg hik]
    by_cases hN : i < N
    · simp [hN, h2 i (fun e => hik e.symm)]
    · simp [hN]
theorem mh_ws_set {E : mh_E} {h h' : mh_H} {k : Nat} {c : va_E} (hn : mh_n h' = mh_n h) (hc : mh_cell E h' k = c) (ho : ∀ a, a ≠ k → mh_cell E h' a = mh_cell E h a) : (mh_ws E h).set k (mh_ad E k, c) = mh_ws E h' := by
  unfold mh_ws
  rw [hn]
  exact mh_rset (by rw [hc]) (fun i hi => by rw [ho i hi])
def mh_nest : List Cond := lw_tbl.filter (fun w => match w with | .methodLinkNest .. => true | .castable .. => true | _ => false)
def mh_noc : List (String × String) := [("HoleWater$Way", "HoleWater$Open"), ("HoleWater$Sieve", "HoleWater$Open"), ("HoleWater$Pool", "HoleWater$Open"), ("HoleWater$Blind", "HoleWater$Open"), ("HoleWater$Way", "HoleWater$Sieve"), ("HoleWater$Open", "HoleWater$Sieve"), ("HoleWater$Overflow", "HoleWater$Sieve"), ("HoleWater$Pool", "HoleWater$Sieve"), ("HoleWater$Way", "HoleWater$Overflow"), ("HoleWater$Open", "HoleWater$Overflow"), ("HoleWater$Sieve", "HoleWater$Overflow"), ("HoleWater$Pool", "HoleWater$Overflow"), ("HoleWater$Blind", "HoleWater$Overflow"), ("HoleWater$Way", "HoleWater$Pool"), ("HoleWater$Open", "HoleWater$Pool"), ("HoleWater$Sieve", "HoleWater$Pool"), ("HoleWater$Overflow", "HoleWater$Pool"), ("HoleWater$Blind", "HoleWater$Pool"), ("HoleWater$Way", "HoleWater$Blind"), ("HoleWater$Open", "HoleWater$Blind"), ("HoleWater$Sieve", "HoleWater$Blind"), ("HoleWater$Overflow", "HoleWater$Blind"), ("HoleWater$Pool", "HoleWater$Blind")]
/-- the text constants: class, entry, text, which text -/
def mh_str : List (String × Nat × String × Nat) := [("HoleWater$Reader", 37, "hdkf", 0), ("HoleWater", 239, "hdkf", 0), ("HoleWater", 241, "wcs", 1)]
def mh_len : List Nat := [4, 3]
def mh_byt : List (List Int32) := [[104, 100, 107, 102], [119, 99, 115]]
def mh_KU (E : mh_E) (U : State) : Prop := va_K (mh_D E) mh_cl [(mh_cI E, .int), (mh_cW E, .object RX9)] U ∧ (∀ w ∈ mh_nest, va_Nw w U) ∧ (∀ q ∈ mh_noc, va_Nc q.1 q.2 U) ∧ va_AO RX9 U ∧ ∀ q ∈ mh_str, vk_R q.1 q.2.1 q.2.2.1 (mh_pre E (1 + q.2.2.2)) U
def mh_SH (E : mh_E) (U : State) (H : Heap) : Prop := vk_S 2 mh_len mh_byt (fun i => mh_pre E (1 + i)) (fun i => mh_pre E (3 + i)) (mh_A E) U H ∧ va_Z "java/lang/String" "COMPACT_STRINGS" "Z" (.int 1) (mh_A E) U H ∧ va_X (mh_pre E 0) (mh_L E) (mh_xs E) U H ∧ mh_pre E 0 < mh_sz E
theorem mh_nest_form : ∀ w ∈ mh_nest, (∃ a i x h, w = .methodLinkNest a i x h) ∨ ∃ a b, w = .castable a b := by
  intro w hw
  have h1 := (List.mem_filter.mp hw).2
  cases w <;> first | (exact Or.inl ⟨_, _, _, _, rfl⟩) | (exact Or.inr ⟨_, _, rfl⟩) | (exact absurd h1 (by simp))
theorem mh_KU.warm {E : mh_E} {s U : State} (hW : s.WarmedH U.vm) (h : mh_KU E s) : mh_KU E U := by
  obtain ⟨h1, h2, h3, h4, h5⟩ := h
  refine ⟨va_K.moved hW.alike h1, fun w hw => ?_, fun q hq => (h3 q hq).moved hW.alike, h4.moved hW.alike, fun q hq => (h5 q hq).warm hW⟩
  rcases mh_nest_form w hw with ⟨a, i, x, g, rfl⟩ | ⟨a, b, rfl⟩
  · exact va_Nw.warmM hW (h2 _ hw)
  · exact va_Nw.warmC hW (h2 _ hw)
theorem mh_KU.same {E : mh_E} {s U : State} (hv : s.vm = U.vm) (h : mh_KU E s) : mh_KU E U := by
  obtain ⟨h1, h2, h3, h4, h5⟩ := h
  have ha : s.vm.Alike U.vm := by rw [hv]; exact Vm.Alike.refl _
  refine ⟨va_K.moved ha h1, fun w hw => ?_, fun q hq => (h3 q hq).moved ha, h4.moved ha, fun q hq => (h5 q hq).same hv.symm⟩
  rcases mh_nest_form w hw with ⟨a, i, x, g, rfl⟩ | ⟨a, b, rfl⟩
  · exact va_Nw.same rfl hv (h2 _ hw)
  · exact va_Nw.same rfl hv (h2 _ hw)
theorem mh_SH.moved {E : mh_E} {s U : State} {H : Heap} (ha : s.vm.Alike U.vm) (h : mh_SH E s H) : mh_SH E U H := ⟨h.1.moved ha, h.2.1.moved ha, h.2.2.1.moved ha, h.2.2.2⟩
theorem mh_SH.kept {E : mh_E} {U : State} {H H1 : Heap} (h : mh_SH E U H) (hq : ∀ a : Nat, a < H.size → ¬ mh_A E a → H1[a]? = H[a]?) : mh_SH E U H1 := by
  refine ⟨h.1.kept hq, h.2.1.kept hq, h.2.2.1.kept (hq _ ?_ (Nat.not_le.mpr h.2.2.2)), h.2.2.2⟩
  obtain ⟨scr, h1, -⟩ := h.2.2.1
  exact (Array.getElem?_eq_some_iff.mp h1).1
/-- a method: name, bytes, locals, answer's type -/
abbrev mh_M : Type := MethodName × ByteArray × Nat × Option FieldType
def mh_X (M : mh_M) (E : mh_E) (p : Program) (s : State) (m : MethodId) (args : Array Value) (meth : Method) (c : Code) : Prop :=
  p.tables.exec = Jvm.exec ∧ c.code = M.2.1 ∧ c.maxLocals = M.2.2.1 ∧ meth.sig.returnType = M.2.2.2 ∧ meth.locks = false ∧ s.vm.findClass M.1.cls = some m.cls ∧ meth.name = M.1.name ∧ (∀ w ∈ mh_T, w.before args s = true) ∧ mh_KU E s ∧ mh_SH E s s.heap ∧ mh_sz E ≤ s.heap.size
def mh_Q (E : mh_E) (r : Option Value) (h' : mh_H) : Array Value → State → Outcome → State → Prop := fun _ st oc t => oc = .returned (r.map (mh_c E)) ∧ mh_P E h' t.heap ∧ va_F (mh_A E) st t
/-- the locals, by their places -/
def mh_as (E : mh_E) (lv : List (Option Value)) : List (Nat × Value) := lv.zipIdx.filterMap (fun q => q.1.map (fun v => (q.2, mh_c E v)))
theorem mh_as_mem {E : mh_E} {lv : List (Option Value)} {i : Nat} {w : Value} : (i, w) ∈ mh_as E lv ↔ ∃ v, lv[i]? = some (some v) ∧ w = mh_c E v := by
  unfold mh_as
  rw [List.mem_filterMap]
  constructor
  · rintro ⟨⟨o, j⟩, hq, ho⟩
    rw [List.mem_zipIdx_iff_getElem?] at hq
    cases o with
    | none => cases ho
    | some v =>
      cases ho
      exact ⟨v, hq, rfl⟩
  · rintro ⟨v, hv, rfl⟩
    exact ⟨(some v, i), List.mem_zipIdx_iff_getElem?.mpr hv, rfl⟩
def mh_go (P : mh_E → Prop) (d : Nat) (M : mh_M) (pc : Nat) (lv : List (Option Value)) (st : List Value) (h : mh_H) (r : Option Value) (h' : mh_H) : Prop :=
  (mh_n h ≤ mh_n h' ∧ mh_z h ≤ mh_z h') ∧ ∀ (p : Program) (l : Launch) (e : Env) (R : Room) (s : State) (m : MethodId) (args : Array Value) (below : List Frame) (meth : Method) (c : Code) (H : Heap) (locs : List Loc) (cells slots : Nat) (ls : Array Slot) (E : mh_E) (n0 z0 mc ms : Nat), P E → mh_X M E p s m args meth c → d ≤ R.frames → 64 * d ≤ R.locals → mh_n h' ≤ R.cells + n0 → mh_z h' ≤ R.slots + z0 → mh_P E h H → va_S (mh_A E) s.heap H locs → lv_has ls M.2.2.1 (mh_as E lv) → lv.length = M.2.2.1 → cells + n0 = mh_n h → slots + z0 = mh_z h → mc + n0 = mh_n h' → ms + z0 = mh_z h' →
    W p l e R s m args below meth c H locs cells slots (MQ below (mh_Q E r h') args s mc ms (mh_A E)) (F0 m pc ls (st.map (mh_c E)))
