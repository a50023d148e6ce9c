/-! fields and rows of the plain heap -/
def mh_R (ci : Nat) : String := match ci with
  | 0 => RX0
  | 1 => RX1
  | 2 => RX2
  | 3 => RX3
  | 4 => RX4
  | 5 => RX5
  | 6 => RX6
  | 7 => RX7
  | 8 => RX8
  | 9 => RX9
  | 10 => RX10
  | 11 => RX11
  | _ => RX12
def mh_TT (ci : Nat) : u_T := match ci with
  | 0 => TX0
  | 1 => TX1
  | 2 => TX2
  | 3 => TX3
  | 4 => TX4
  | 5 => TX5
  | 6 => TX6
  | 7 => TX7
  | 8 => TX8
  | 9 => TX9
  | 10 => TX10
  | 11 => TX11
  | _ => TX12
theorem mh_c13 {P : Nat → Prop} (h : P 0 ∧ P 1 ∧ P 2 ∧ P 3 ∧ P 4 ∧ P 5 ∧ P 6 ∧ P 7 ∧ P 8 ∧ P 9 ∧ P 10 ∧ P 11 ∧ P 12) (ci : Nat) (hc : ci < 13) : P ci := by
  obtain ⟨h0, h1, h2, h3, h4, h5, h6, h7, h8, h9, h10, h11, h12⟩ := h
  match ci, hc with
  | 0, _ => exact h0
  | 1, _ => exact h1
  | 2, _ => exact h2
  | 3, _ => exact h3
  | 4, _ => exact h4
  | 5, _ => exact h5
  | 6, _ => exact h6
  | 7, _ => exact h7
  | 8, _ => exact h8
  | 9, _ => exact h9
  | 10, _ => exact h10
  | 11, _ => exact h11
  | 12, _ => exact h12
  | n + 13, h => omega
theorem mh_cl_get (ci : Nat) (hc : ci < 13) : mh_cl[ci]? = some (mh_R ci, mh_TT ci, mh_N ci) := mh_c13 (P := fun ci => mh_cl[ci]? = some (mh_R ci, mh_TT ci, mh_N ci)) ⟨rfl, rfl, rfl, rfl, rfl, rfl, rfl, rfl, rfl, rfl, rfl, rfl, rfl⟩ ci hc
theorem mh_typ (ci : Nat) (hc : ci < 13) : ∀ k, k < mh_N ci → parseFieldDescriptor (mh_TT ci k).2.2.1 = some (mh_ty ci k) := mh_c13 (P := fun ci => ∀ k, k < mh_N ci → parseFieldDescriptor (mh_TT ci k).2.2.1 = some (mh_ty ci k)) ⟨tyX0_ok, tyX1_ok, tyX2_ok, tyX3_ok, tyX4_ok, tyX5_ok, tyX6_ok, tyX7_ok, tyX8_ok, tyX9_ok, tyX10_ok, tyX11_ok, tyX12_ok⟩ ci hc
theorem mh_nms (ci : Nat) (hc : ci < 13) : ∀ a, a < mh_N ci → ∀ b, b < mh_N ci → a ≠ b → (mh_TT ci a).2.1 ≠ (mh_TT ci b).2.1 := mh_c13 (P := fun ci => ∀ a, a < mh_N ci → ∀ b, b < mh_N ci → a ≠ b → (mh_TT ci a).2.1 ≠ (mh_TT ci b).2.1) ⟨nmX0, nmX1, nmX2, nmX3, nmX4, nmX5, nmX6, nmX7, nmX8, nmX9, nmX10, nmX11, nmX12⟩ ci hc
set_option maxRecDepth 100000 in
theorem mh_layB : (List.range 13).all (fun ci => (u_ws (mh_R ci) (mh_TT ci) (mh_N ci)).all (fun w => decide (w ∈ tables_1) && goodWord w)) = true := by decide +kernel
theorem mh_lay (ci : Nat) (hc : ci < 13) : ∀ w ∈ u_ws (mh_R ci) (mh_TT ci) (mh_N ci), w ∈ mh_T := fun w hw => by
  have h1 := List.all_eq_true.mp (List.all_eq_true.mp mh_layB ci (List.mem_range.mpr hc)) w hw
  rw [Bool.and_eq_true] at h1
  exact mh_T_in (List.mem_append_right _ (of_decide_eq_true h1.1)) h1.2
theorem mh_def (ci : Nat) (hc : ci < 13) : ∀ j, j < mh_N ci → defaultValue (mh_ty ci j) = if mh_isr ci j = true then .null else .int 0 := mh_c13 (P := fun ci => ∀ j, j < mh_N ci → defaultValue (mh_ty ci j) = if mh_isr ci j = true then .null else .int 0) (by
  refine ⟨?_, ?_, ?_, ?_, ?_, ?_, ?_, ?_, ?_, ?_, ?_, ?_, ?_⟩ <;> decide +kernel) ci hc
/-- getfield, putfield at an entry of a class's pool: of an object of class ci its field j -/
def mh_fl (own : String) (index ci j : Nat) : Prop := ci < 13 ∧ j < mh_N ci ∧ ∃ ref : String, Cond.fieldLink own index ref (mh_TT ci j).2.1 (mh_TT ci j).2.2.1 ∈ mh_T ∧ (ref = (mh_TT ci j).1 ∨ Cond.sameField ref (mh_TT ci j).1 (mh_TT ci j).2.1 (mh_TT ci j).2.2.1 ∈ mh_T)
def mh_si (h : mh_H) (k j : Nat) (x : Int32) : mh_H := (h.1, h.2.1, h.2.2.1, h.2.2.2.1, (fun a b => if a = k ∧ b = j then x else h.2.2.2.2.1 a b), h.2.2.2.2.2)
def mh_sr (h : mh_H) (k j : Nat) (x : Option Nat) : mh_H := (h.1, h.2.1, h.2.2.1, h.2.2.2.1, h.2.2.2.2.1, (fun a b => if a = k ∧ b = j then x else h.2.2.2.2.2 a b))
def mh_new (h : mh_H) (kd ln : Nat) : mh_H := (h.1 + 1, h.2.1 + ln, (fun a => if a = h.1 then kd else h.2.2.1 a), (fun a => if a = h.1 then ln else h.2.2.2.1 a), (fun a b => if a = h.1 then 0 else h.2.2.2.2.1 a b), (fun a b => if a = h.1 then none else h.2.2.2.2.2 a b))
def mh_cp (h : mh_H) (a b sp dp n : Nat) : mh_H := (h.1, h.2.1, h.2.2.1, h.2.2.2.1, (fun x => if x = b then va_cpy (h.2.2.2.2.1 a) (h.2.2.2.2.1 b) sp dp n else h.2.2.2.2.1 x), h.2.2.2.2.2)
theorem mh_cell_i {E : mh_E} {h : mh_H} {k : Nat} (hk : mh_k h k = 0) : mh_cell E h k = .inl (mh_cI E, mh_l h k, .inl (mh_i h k)) := by unfold mh_cell; rw [hk]
theorem mh_cell_w {E : mh_E} {h : mh_H} {k : Nat} (hk : mh_k h k = 1) : mh_cell E h k = .inl (mh_cW E, mh_l h k, .inr (.inr (.inr (.inr (fun j => (mh_r h k j).map (mh_ad E)))))) := by unfold mh_cell; rw [hk]
theorem mh_cell_o {E : mh_E} {h : mh_H} {k ci : Nat} (hk : mh_k h k = ci + 2) : mh_cell E h k = .inr (ci, (List.range (mh_N ci)).map (mh_fv E h ci k)) := by unfold mh_cell; rw [hk]
/-- a cell's picture hangs on its own kind, length and slots alone -/
theorem mh_cell_eq {E : mh_E} {h h' : mh_H} {a : Nat} (h1 : mh_k h' a = mh_k h a) (h2 : mh_l h' a = mh_l h a) (h3 : mh_i h' a = mh_i h a) (h4 : mh_r h' a = mh_r h a) : mh_cell E h' a = mh_cell E h a := by
  have e : mh_fv E h' = mh_fv E h ∨ True := Or.inr trivial
  have hf : ∀ ci, mh_fv E h' ci a = mh_fv E h ci a := fun ci => by funext j; unfold mh_fv; rw [h3, h4]
  unfold mh_cell
  rw [h1, h2, h3, h4]
  simp only [hf]
theorem mh_si_other {E : mh_E} {h : mh_H} {k j a : Nat} {x : Int32} (ha : a ≠ k) : mh_cell E (mh_si h k j x) a = mh_cell E h a :=
  mh_cell_eq rfl rfl (by funext b; show (if a = k ∧ b = j then x else _) = _; rw [if_neg (fun q => ha q.1)]; rfl) rfl
theorem mh_sr_other {E : mh_E} {h : mh_H} {k j a : Nat} {x : Option Nat} (ha : a ≠ k) : mh_cell E (mh_sr h k j x) a = mh_cell E h a :=
  mh_cell_eq rfl rfl rfl (by funext b; show (if a = k ∧ b = j then x else _) = _; rw [if_neg (fun q => ha q.1)]; rfl)
theorem mh_cp_other {E : mh_E} {h : mh_H} {a b sp dp n q : Nat} (ha : q ≠ b) : mh_cell E (mh_cp h a b sp dp n) q = mh_cell E h q :=
  mh_cell_eq rfl rfl (by show (if q = b then _ else _) = _; rw [if_neg ha]; rfl) rfl
theorem mh_P.set {E : mh_E} {h h' : mh_H} {H H1 : Heap} {k : Nat} {c : va_E} (hP : mh_P E h H) (hz : H1.size = H.size) (hn : mh_n h' = mh_n h) (hc : mh_cell E h' k = c) (ho : ∀ a, a ≠ k → mh_cell E h' a = mh_cell E h a) (hP1 : va_P (mh_D E) mh_cl ((mh_ws E h).set k (mh_ad E k, c)) H1) : mh_P E h' H1 := by
  rw [mh_ws_set hn hc ho] at hP1
  exact ⟨by rw [hz, hP.1, hn], by rw [hn]; exact hP.2.1, hP1⟩
section MHC
variable {P : mh_E → Prop} {d : Nat} {M : mh_M} {pc : Nat} {lv : List (Option Value)} {rest : List Value} {h : mh_H} {r : Option Value} {h' : mh_H}
theorem mh_same {own : String} {index ci j : Nat} {args : Array Value} {s : State} (hts : ∀ w ∈ mh_T, w.before args s = true) {ref : String} (hr : ref = (mh_TT ci j).1 ∨ Cond.sameField ref (mh_TT ci j).1 (mh_TT ci j).2.1 (mh_TT ci j).2.2.1 ∈ mh_T) : ∀ x, s.fieldFound? (mh_TT ci j).1 (mh_TT ci j).2.1 (mh_TT ci j).2.2.1 = some x → s.fieldFound? ref (mh_TT ci j).2.1 (mh_TT ci j).2.2.1 = some x := by
  rcases hr with rfl | hr
  · exact fun x hx => hx
  · intro x hx
    have h1 := hts _ hr
    cases hf : s.fieldFound? ref (mh_TT ci j).2.1 (mh_TT ci j).2.2.1 with
    | none => simp [Cond.before, Cond.holds, Cond.value, hf] at h1
    | some y =>
      obtain ⟨c, k, i, f⟩ := y
      have := Cond.sameField_spec hf h1
      rw [← this]; exact hx
theorem st_geti {index ci j k : Nat} (hd : decode M.2.1 pc = .ok (.getfield index, 3)) (hf : mh_fl M.1.cls index ci j) (hk : mh_k h k = ci + 2) (hn : k < mh_n h) (hi : mh_isr ci j = false) (kk : mh_go P d M (pc + 3) lv (.int (mh_i h k j) :: rest) h r h') : mh_go P d M pc lv (.ref k :: rest) h r h' := by
  obtain ⟨hc, hj, ref, hl, hs⟩ := hf
  refine mh_move kk (fun p l e R s m args below meth c H locs cells slots ls E Q hPE hX hv hP w => ?_)
  refine va_get (tys := [(mh_cI E, .int), (mh_cW E, .object RX9)]) hX.1 hX.2.1 hX.2.2.2.2.2.2.2.1 (mh_lay ci hc) hX.2.2.2.2.2.1 hX.2.2.2.2.2.2.2.2.1.1 hP.2.2 k ((mh_ws_get hn).trans (by rw [mh_cell_o hk])) (mh_cl_get ci hc) j hj (hX.2.2.2.2.2.2.2.1 _ hl) (mh_same (own := M.1.cls) (index := index) hX.2.2.2.2.2.2.2.1 hs) ?_ hd w
  rw [List.getElem?_map, List.getElem?_range hj]
  show some (mh_fv E h ci k j) = _
  unfold mh_fv; rw [hi]; rfl
theorem st_getr {index ci j k a : Nat} (hd : decode M.2.1 pc = .ok (.getfield index, 3)) (hf : mh_fl M.1.cls index ci j) (hk : mh_k h k = ci + 2) (hn : k < mh_n h) (hi : mh_isr ci j = true) (ha : mh_r h k j = some a) (kk : mh_go P d M (pc + 3) lv (.ref a :: rest) h r h') : mh_go P d M pc lv (.ref k :: rest) h r h' := by
  obtain ⟨hc, hj, ref, hl, hs⟩ := hf
  refine mh_move kk (fun p l e R s m args below meth c H locs cells slots ls E Q hPE hX hv hP w => ?_)
  refine va_get (tys := [(mh_cI E, .int), (mh_cW E, .object RX9)]) hX.1 hX.2.1 hX.2.2.2.2.2.2.2.1 (mh_lay ci hc) hX.2.2.2.2.2.1 hX.2.2.2.2.2.2.2.2.1.1 hP.2.2 k ((mh_ws_get hn).trans (by rw [mh_cell_o hk])) (mh_cl_get ci hc) j hj (hX.2.2.2.2.2.2.2.1 _ hl) (mh_same (own := M.1.cls) (index := index) hX.2.2.2.2.2.2.2.1 hs) ?_ hd w
  rw [List.getElem?_map, List.getElem?_range hj]
  show some (mh_fv E h ci k j) = _
  unfold mh_fv; rw [hi, ha]; rfl
theorem st_iald {k : Nat} {i : Int32} (hd : decode M.2.1 pc = .ok (.iaload, 1)) (hk : mh_k h k = 0) (hn : k < mh_n h) (hi : ¬ (i < 0 ∨ mh_l h k ≤ i.toNatClampNeg)) (kk : mh_go P d M (pc + 1) lv (.int (mh_i h k i.toNatClampNeg) :: rest) h r h') : mh_go P d M pc lv (.int i :: .ref k :: rest) h r h' :=
  mh_move kk (fun p l e R s m args below meth c H locs cells slots ls E Q hPE hX hv hP w => va_iald (tys := [(mh_cI E, .int), (mh_cW E, .object RX9)]) hX.1 hX.2.1 hX.2.2.2.2.2.2.2.2.1.1 hP.2.2 k 0 ((mh_ws_get hn).trans (by rw [mh_cell_i hk])) rfl hi hd w)
theorem st_aald {k a : Nat} {i : Int32} (hd : decode M.2.1 pc = .ok (.aaload, 1)) (hk : mh_k h k = 1) (hn : k < mh_n h) (hi : ¬ (i < 0 ∨ mh_l h k ≤ i.toNatClampNeg)) (ha : mh_r h k i.toNatClampNeg = some a) (kk : mh_go P d M (pc + 1) lv (.ref a :: rest) h r h') : mh_go P d M pc lv (.int i :: .ref k :: rest) h r h' :=
  mh_move kk (fun p l e R s m args below meth c H locs cells slots ls E Q hPE hX hv hP w => va_aldq (tys := [(mh_cI E, .int), (mh_cW E, .object RX9)]) (C := RX9) hX.1 hX.2.1 hX.2.2.2.2.2.2.2.2.1.1 hP.2.2 k 1 ((mh_ws_get hn).trans (by rw [mh_cell_w hk])) rfl hi hd (by rw [ha]; exact w))
theorem st_alen {k : Nat} (hd : decode M.2.1 pc = .ok (.arraylength, 1)) (hk : mh_k h k = 0 ∨ mh_k h k = 1) (hn : k < mh_n h) (kk : mh_go P d M (pc + 1) lv (.int (Int32.ofNat (mh_l h k)) :: rest) h r h') : mh_go P d M pc lv (.ref k :: rest) h r h' :=
  mh_move kk (fun p l e R s m args below meth c H locs cells slots ls E Q hPE hX hv hP w => by
    rcases hk with hk | hk
    · exact va_alen (tys := [(mh_cI E, .int), (mh_cW E, .object RX9)]) hX.1 hX.2.1 hX.2.2.2.2.2.2.2.2.1.1 hP.2.2 k 0 (x := (mh_l h k, .inl (mh_i h k))) ((mh_ws_get hn).trans (by rw [mh_cell_i hk])) rfl rfl hd w
    · exact va_alen (tys := [(mh_cI E, .int), (mh_cW E, .object RX9)]) hX.1 hX.2.1 hX.2.2.2.2.2.2.2.2.1.1 hP.2.2 k 1 (x := (mh_l h k, .inr (.inr (.inr (.inr (fun j => (mh_r h k j).map (mh_ad E))))))) ((mh_ws_get hn).trans (by rw [mh_cell_w hk])) rfl rfl hd w)
/-- a step that changes one cell -/
theorem mh_chg {pc2 : Nat} {st st2 : List Value} {h2 : mh_H} (hn : mh_n h2 = mh_n h) (hz : mh_z h2 = mh_z h) (k : mh_go P d M pc2 lv st2 h2 r h')
    (f : ∀ (p : Program) (l : Launch) (e : Env) (R : Room) (s : State) (m : MethodId) (args : Array Value) (below : List Frame) (meth : Method) (c : Code) (H : Heap) (locs : List Loc) (cells slots : Nat) (ls : Array Slot) (E : mh_E) (Q : State → Prop), P E → mh_X M E p s m args meth c → lv_has ls M.2.2.1 (mh_as E lv) → mh_P E h H → va_S (mh_A E) s.heap H locs → d ≤ R.frames → 64 * d ≤ R.locals →
      (∀ (H1 : Heap) (locs1 : List Loc), mh_P E h2 H1 → va_S (mh_A E) s.heap H1 locs1 → W p l e R s m args below meth c H1 locs1 cells slots Q (F0 m pc2 ls (st2.map (mh_c E)))) → W p l e R s m args below meth c H locs cells slots Q (F0 m pc ls (st.map (mh_c E)))) : mh_go P d M pc lv st h r h' :=
  ⟨⟨by rw [← hn]; exact k.1.1, by rw [← hz]; exact k.1.2⟩, fun p l e R s m args below meth c H locs cells slots ls E n0 z0 mc ms hPE hX hf hl hc hs hP hS hv hnn e1 e2 e3 e4 => f p l e R s m args below meth c H locs cells slots ls E _ hPE hX hv hP hS hf hl (fun H1 locs1 hP1 hS1 => k.2 p l e R s m args below meth c H1 locs1 cells slots ls E n0 z0 mc ms hPE hX hf hl hc hs hP1 hS1 hv hnn (by rw [hn]; exact e1) (by rw [hz]; exact e2) e3 e4)⟩
theorem mh_inA {E : mh_E} {k : Nat} (hn : k < mh_n h) (hl : mh_n h ≤ 1000000000) : mh_A E (mh_ad E k) := by
  show mh_sz E ≤ mh_ad E k
  rw [mh_ad_lt (by omega)]
  omega
theorem mh_fit {ty : FieldType} {x : Int32} (ht : ty = .int ∨ (ty = .boolean ∧ (x = 0 ∨ x = 1))) : narrow ty (.int x) = .int x ∧ fits ty (.int x) = true := by
  rcases ht with rfl | ⟨rfl, rfl | rfl⟩
  · exact ⟨rfl, rfl⟩
  · exact ⟨by decide, by decide⟩
  · exact ⟨by decide, by decide⟩
theorem mh_fitr {ci j : Nat} {a : Nat} (hi : mh_isr ci j = true) (ht : (∃ C, mh_ty ci j = .object C) ∨ ∃ t, mh_ty ci j = .array t) : narrow (mh_ty ci j) (.ref a) = .ref a ∧ fits (mh_ty ci j) (.ref a) = true := by
  rcases ht with ⟨C, e⟩ | ⟨t, e⟩ <;> rw [e] <;> exact ⟨rfl, rfl⟩
/-- putfield at the machine: the cell, and nothing else; the heap's size stays -/
theorem mh_vput {p : Program} {l : Launch} {e : Env} {R : Room} {s : State} {m : MethodId} {args : Array Value} {below : List Frame} {meth : Method} {c : Code} {H : Heap} {locs : List Loc} {cells slots : Nat} {ls : Array Slot} {E : mh_E} {Q : State → Prop} {st : List Value}
    (hX : mh_X M E p s m args meth c) (hP : mh_P E h H) (hS : va_S (mh_A E) s.heap H locs) {index ci j k : Nat} (hd : decode M.2.1 pc = .ok (.putfield index, 3)) (hf : mh_fl M.1.cls index ci j) (hk : mh_k h k = ci + 2) (hn : k < mh_n h) (hfin : (mh_TT ci j).2.2.2 = false ∨ (M.1.name = "<init>" ∧ (mh_TT ci j).1 = M.1.cls)) {v : Value} (hnw : narrow (mh_ty ci j) v = v) (hfit : fits (mh_ty ci j) v = true)
    (kk : ∀ (H1 : Heap) (locs1 : List Loc), H1.size = H.size → va_P (mh_D E) mh_cl ((mh_ws E h).set k (mh_ad E k, .inr (ci, ((List.range (mh_N ci)).map (mh_fv E h ci k)).set j v))) H1 → va_S (mh_A E) s.heap H1 locs1 → W p l e R s m args below meth c H1 locs1 cells slots Q (F0 m (pc + 3) ls st)) : W p l e R s m args below meth c H locs cells slots Q (F0 m pc ls (v :: .ref (mh_ad E k) :: st)) := by
  obtain ⟨hx, hb, hml, hr, hlk, hown, hnm, hts, hKU, hSH, hsz⟩ := hX
  obtain ⟨hc, hj, ref, hl, hs⟩ := hf
  have hK := hKU.1
  have he : (mh_ws E h)[k]? = some (mh_ad E k, .inr (ci, (List.range (mh_N ci)).map (mh_fv E h ci k))) := (mh_ws_get hn).trans (by rw [mh_cell_o hk])
  have hD := mh_dis (E := E) hP.2.1
  have hap := va_apart (own := M.1.cls) hts (mh_lay ci hc) (mh_ty ci) (mh_typ ci hc) (mh_nms ci hc) hK (mh_cl_get ci hc)
  have hsame := mh_same (own := M.1.cls) (index := index) hts hs
  have hlink := hts _ hl
  obtain ⟨r0, g1, cell, q1, q2, q3, q4⟩ := hP.2.2 k _ he
  have hr0 : r0 = (mh_R ci, mh_TT ci, mh_N ci) := Option.some.inj (g1.symm.trans (mh_cl_get ci hc))
  subst hr0
  obtain ⟨hSl, hfc, kC, hkC, hkind⟩ := hK.1 ci _ (mh_cl_get ci hc)
  obtain ⟨cf, kf, fi, f, hi, hsl⟩ := hSl j hj
  have hlay := hts _ (mh_lay ci hc _ (u_in_lay hj))
  unfold u_lay at hlay
  have hst := (u_facts hfc hkC (u_lays hts (mh_lay ci hc) hj) hi).1
  have hlen : j < ((List.range (mh_N ci)).map (mh_fv E h ci k)).length := by simpa using hj
  have fin : ∀ (H' : Heap), H'[mh_ad E k]? = some (cell.setSlot (((mh_D E).2 ci) j) v) → H'.size = H.size → (∀ q, q ≠ mh_ad E k → H'[q]? = H[q]?) → ∀ x, W p l e R s m args below meth c H' (locs ++ [⟨mh_ad E k, x⟩]) cells slots Q (F0 m (pc + 3) ls st) := by
    intro H' e1 e2 e3 x
    exact kk H' _ e2 (hP.2.2.set hD he ⟨_, mh_cl_get ci hc, t_OB.to (V := updV (vp_V ((List.range (mh_N ci)).map (mh_fv E h ci k))) j v) ⟨_, e1, q2, q3, t_set q4 hap hj v⟩ (fun i _ => vp_updV_set hlen v i)⟩ e3) (hS.put e2 e3 (mh_inA hn hP.2.1))
  by_cases hfb : (mh_TT ci j).2.2.2 = true
  · rw [if_pos hfb] at hlay
    obtain ⟨hin2, hdecl⟩ : M.1.name = "<init>" ∧ (mh_TT ci j).1 = M.1.cls := by
      rcases hfin with q | q
      · rw [q] at hfb; cases hfb
      · exact q
    have hcf : m.cls = cf := by
      obtain ⟨_, _, c', _, _, _, -, -, hf', -, -, -, hown2, -⟩ := Cond.laysFinal_spec hlay
      have e1 : c' = cf := by have := hi.symm.trans hf'; simp at this; exact this.1.symm
      rw [hdecl] at hown2
      rw [← e1]; exact Option.some.inj (hown.symm.trans hown2)
    have h6 := u_fits hfc hkC hkind (Or.inr hlay) hi (mh_typ ci hc j hj) hnw hfit
    refine W.putFinK hx hb hown hlink (hsame _ hi) hst hcf (hnm.trans hin2) (by rw [q2]; exact h6) q1 q3 (by rw [hsl]; exact k2_hasslot (q4 j hj)) rfl rfl hd fun H' e1 e2 e3 => ?_
    rw [hsl] at e1
    exact fin H' e1 e2 e3 _
  · rw [if_neg hfb] at hlay
    have h6 := u_store hfc hkC hkind hlay hi (mh_typ ci hc j hj) hnw hfit
    refine W.putK hx hb (f := f) ⟨hown, hlink, ⟨_, _, _, hsame _ hi⟩, hst⟩ (by rw [q2]; exact h6) q1 q3 (by rw [hsl]; exact k2_hasslot (q4 j hj)) rfl rfl hd fun H' e1 e2 e3 => ?_
    rw [hsl] at e1
    exact fin H' e1 e2 e3 _
theorem st_puti {index ci j k : Nat} {x : Int32} (hd : decode M.2.1 pc = .ok (.putfield index, 3)) (hf : mh_fl M.1.cls index ci j) (hk : mh_k h k = ci + 2) (hn : k < mh_n h) (hfin : (mh_TT ci j).2.2.2 = false ∨ (M.1.name = "<init>" ∧ (mh_TT ci j).1 = M.1.cls)) (ht : mh_ty ci j = .int ∨ (mh_ty ci j = .boolean ∧ (x = 0 ∨ x = 1))) (kk : mh_go P d M (pc + 3) lv rest (mh_si h k j x) r h') : mh_go P d M pc lv (.int x :: .ref k :: rest) h r h' := by
  refine mh_chg (h2 := mh_si h k j x) rfl rfl kk (fun p l e R s m args below meth c H locs cells slots ls E Q hPE hX hv hP hS _ _ w => ?_)
  refine mh_vput hX hP hS hd hf hk hn hfin (v := .int x) (mh_fit ht).1 (mh_fit ht).2 (fun H1 locs1 hz hP1 hS1 => w H1 locs1 (hP.set hz rfl ?_ (fun a ha => mh_si_other ha) hP1) hS1)
  rw [mh_cell_o (show mh_k (mh_si h k j x) k = ci + 2 from hk)]
  have hi : mh_isr ci j = false := by
    unfold mh_isr
    rcases ht with e | ⟨e, -⟩ <;> rw [e]
  exact congrArg (fun z => Sum.inr (ci, z)) (mh_rset (f' := mh_fv E (mh_si h k j x) ci k) (by unfold mh_fv; rw [hi]; show Value.int (if k = k ∧ j = j then x else _) = _; rw [if_pos ⟨rfl, rfl⟩]) (fun i hij => by
    unfold mh_fv
    by_cases hb : mh_isr ci i = true
    · rw [if_pos hb, if_pos hb]; rfl
    · rw [if_neg hb, if_neg hb]
      show Value.int (if k = k ∧ i = j then x else _) = _
      rw [if_neg (fun q => hij q.2)]; rfl)).symm
theorem st_putr {index ci j k a : Nat} (hd : decode M.2.1 pc = .ok (.putfield index, 3)) (hf : mh_fl M.1.cls index ci j) (hk : mh_k h k = ci + 2) (hn : k < mh_n h) (hfin : (mh_TT ci j).2.2.2 = false ∨ (M.1.name = "<init>" ∧ (mh_TT ci j).1 = M.1.cls)) (hi : mh_isr ci j = true) (ht : (∃ C, mh_ty ci j = .object C) ∨ ∃ t, mh_ty ci j = .array t) (kk : mh_go P d M (pc + 3) lv rest (mh_sr h k j (some a)) r h') : mh_go P d M pc lv (.ref a :: .ref k :: rest) h r h' := by
  refine mh_chg (h2 := mh_sr h k j (some a)) rfl rfl kk (fun p l e R s m args below meth c H locs cells slots ls E Q hPE hX hv hP hS _ _ w => ?_)
  refine mh_vput hX hP hS hd hf hk hn hfin (v := .ref (mh_ad E a)) (mh_fitr hi ht).1 (mh_fitr hi ht).2 (fun H1 locs1 hz hP1 hS1 => w H1 locs1 (hP.set hz rfl ?_ (fun a ha => mh_sr_other ha) hP1) hS1)
  rw [mh_cell_o (show mh_k (mh_sr h k j (some a)) k = ci + 2 from hk)]
  exact congrArg (fun z => Sum.inr (ci, z)) (mh_rset (f' := mh_fv E (mh_sr h k j (some a)) ci k) (by unfold mh_fv; rw [hi]; show va_rf (Option.map _ (if k = k ∧ j = j then some a else _)) = _; rw [if_pos ⟨rfl, rfl⟩]; rfl) (fun i hij => by
    unfold mh_fv
    by_cases hb : mh_isr ci i = true
    · rw [if_pos hb, if_pos hb]
      show va_rf (Option.map _ (if k = k ∧ i = j then some a else _)) = _
      rw [if_neg (fun q => hij q.2)]; rfl
    · rw [if_neg hb, if_neg hb]; rfl)).symm
theorem st_iast {k : Nat} {i x : Int32} (hd : decode M.2.1 pc = .ok (.iastore, 1)) (hk : mh_k h k = 0) (hn : k < mh_n h) (hi : ¬ (i < 0 ∨ mh_l h k ≤ i.toNatClampNeg)) (kk : mh_go P d M (pc + 1) lv rest (mh_si h k i.toNatClampNeg x) r h') : mh_go P d M pc lv (.int x :: .int i :: .ref k :: rest) h r h' := by
  refine mh_chg (h2 := mh_si h k i.toNatClampNeg x) rfl rfl kk (fun p l e R s m args below meth c H locs cells slots ls E Q hPE hX hv hP hS _ _ w => ?_)
  have ha : (mh_ws E h)[k]? = some (mh_ad E k, .inl (mh_cI E, mh_l h k, .inl (mh_i h k))) := (mh_ws_get hn).trans (by rw [mh_cell_i hk])
  refine W.iast hX.1 hX.2.1 (hP.2.2 k _ ha) ((hX.2.2.2.2.2.2.2.2.1.1.2 0 _ rfl).1 (mh_l h k) (fun j => .int (mh_i h k j))) (fun q => by cases q) (by show ¬ (i < 0 ∨ (arrV _ _ _).slots.size ≤ _); rw [arrV_size]; exact hi) rfl rfl hd fun H1 e z oq => ?_
  refine w H1 _ (hP.set (c := .inl (mh_cI E, mh_l h k, .inl (upd (mh_i h k) i.toNatClampNeg x))) z rfl ?_ (fun a ha => mh_si_other ha) (hP.2.2.set (mh_dis hP.2.1) ha ?_ oq)) (hS.put z oq (mh_inA hn hP.2.1))
  · rw [mh_cell_i (show mh_k (mh_si h k i.toNatClampNeg x) k = 0 from hk)]
    congr 3
    congr 1
    funext b
    show (if k = k ∧ b = i.toNatClampNeg then x else mh_i h k b) = (if b = i.toNatClampNeg then x else mh_i h k b)
    simp
  · show H1[mh_ad E k]? = some (vp_cell _ _)
    rw [e, vp_cell_i, vp_cell_i, arrV_store]
    congr 2
    funext q
    by_cases hq : q = i.toNatClampNeg
    · subst hq
      simp [updV, upd]
    · simp [updV, upd, hq]
end MHC
