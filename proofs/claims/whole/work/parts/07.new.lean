/-! rows of ways, copies, new cells, classes asked for, constants -/
section MHN
variable {P : mh_E → Prop} {d : Nat} {M : mh_M} {pc : Nat} {lv : List (Option Value)} {rest : List Value} {h : mh_H} {r : Option Value} {h' : mh_H}
def mh_isW (k : Nat) : Bool := k == 2 || k == 4 || k == 5 || k == 6 || k == 9 || k == 11
set_option maxRecDepth 100000 in
theorem mh_castB : [0, 2, 3, 4, 7].all (fun ci => decide (Cond.castable (mh_R ci) RX9 ∈ tables_1)) = true := by decide +kernel
theorem mh_cast {ci : Nat} (hc : ci ∈ [0, 2, 3, 4, 7]) : Cond.castable (mh_R ci) RX9 ∈ mh_nest := by
  have h1 := of_decide_eq_true (List.all_eq_true.mp mh_castB ci hc)
  exact List.mem_filter.mpr ⟨List.mem_append_right _ h1, rfl⟩
theorem st_aast {k a : Nat} {i : Int32} (hd : decode M.2.1 pc = .ok (.aastore, 1)) (hk : mh_k h k = 1) (hn : k < mh_n h) (hi : ¬ (i < 0 ∨ mh_l h k ≤ i.toNatClampNeg)) (hka : mh_isW (mh_k h a) = true) (hna : a < mh_n h) (kk : mh_go P d M (pc + 1) lv rest (mh_sr h k i.toNatClampNeg (some a)) r h') : mh_go P d M pc lv (.ref a :: .int i :: .ref k :: rest) h r h' := by
  refine mh_chg (h2 := mh_sr h k i.toNatClampNeg (some a)) rfl rfl kk (fun p l e R s m args below meth c H locs cells slots ls E Q hPE hX hv hP hS _ _ w => ?_)
  have ha : (mh_ws E h)[k]? = some (mh_ad E k, .inl (mh_cW E, mh_l h k, .inr (.inr (.inr (.inr (fun j => (mh_r h k j).map (mh_ad E))))))) := (mh_ws_get hn).trans (by rw [mh_cell_w hk])
  obtain ⟨ci, hka, hci⟩ : ∃ ci, mh_k h a = ci + 2 ∧ ci ∈ [0, 2, 3, 4, 7, 9] := by
    unfold mh_isW at hka
    simp only [Bool.or_eq_true, beq_iff_eq] at hka
    rcases hka with ((((q | q) | q) | q) | q) | q
    · exact ⟨0, q, by decide⟩
    · exact ⟨2, q, by decide⟩
    · exact ⟨3, q, by decide⟩
    · exact ⟨4, q, by decide⟩
    · exact ⟨7, q, by decide⟩
    · exact ⟨9, q, by decide⟩
  have hc13 : ci < 13 := by
    simp only [List.mem_cons, List.not_mem_nil, or_false] at hci
    omega
  have hva : (mh_ws E h)[a]? = some (mh_ad E a, .inr (ci, (List.range (mh_N ci)).map (mh_fv E h ci a))) := (mh_ws_get hna).trans (by rw [mh_cell_o hka])
  have hKU := hX.2.2.2.2.2.2.2.2.1
  have hK := hKU.1
  obtain ⟨r', hr', cellV, g1, g2, g3, -⟩ := hP.2.2 a _ hva
  have hcls := (hK.1 ci _ (mh_cl_get ci hc13)).2
  obtain ⟨kA, comp, k1, k2, k3, -⟩ := (hK.2 1 _ rfl).2
  obtain ⟨kE, hkE, -⟩ := Vm.findClass_spec k3
  obtain ⟨kC, hkC, -⟩ := hcls.2
  have hasg : s.vm.assignable ((mh_D E).1 ci) comp = true := by
    by_cases h9 : ci = 9
    · subst h9
      have hcomp : comp = (mh_D E).1 9 := Option.some.inj (k3.symm.trans hcls.1)
      rw [hcomp]
      exact va_assign hcls
    · have hm : ci ∈ [0, 2, 3, 4, 7] := by
        simp only [List.mem_cons, List.not_mem_nil, or_false] at hci ⊢
        omega
      obtain ⟨c0, t1, f1, f2, f3⟩ := Cond.castable_spec (va_Nw.use (A := args) rfl (hKU.2.1 _ (mh_cast hm)))
      cases hcls.1.symm.trans f1
      cases k3.symm.trans f2
      exact f3
  refine W.aast hX.1 hX.2.1 (hP.2.2 k _ ha) (fun q h => by cases h) (fun h => by cases h) k1 k2 rfl hkE ⟨fun q => hi (Or.inl q), by show _ < (arrV _ _ _).slots.size; rw [arrV_size]; exact Nat.not_le.mp fun q => hi (Or.inr q)⟩ g1 (fun q h => by rw [g3] at h; cases h) (by rw [g2]; exact hkC) (by rw [g2]; exact hasg) rfl rfl hd fun H1 e z oq => ?_
  refine w H1 _ (hP.set (c := .inl (mh_cW E, mh_l h k, .inr (.inr (.inr (.inr (va_up (fun j => (mh_r h k j).map (mh_ad E)) i.toNatClampNeg (some (mh_ad E a)))))))) z rfl ?_ (fun a ha => mh_sr_other ha) (hP.2.2.set (mh_dis hP.2.1) ha ?_ oq)) (hS.put z oq (mh_inA hn hP.2.1))
  · rw [mh_cell_w (show mh_k (mh_sr h k i.toNatClampNeg (some a)) k = 1 from hk)]
    have eF : (fun j => (mh_r (mh_sr h k i.toNatClampNeg (some a)) k j).map (mh_ad E)) = va_up (fun j => (mh_r h k j).map (mh_ad E)) i.toNatClampNeg (some (mh_ad E a)) := by
      funext b
      show Option.map _ (if k = k ∧ b = i.toNatClampNeg then some a else mh_r h k b) = (if b = i.toNatClampNeg then _ else _)
      by_cases hb : b = i.toNatClampNeg
      · rw [if_pos ⟨rfl, hb⟩, if_pos hb]; rfl
      · rw [if_neg (fun q => hb q.2), if_neg hb]
    rw [eF]
    rfl
  · show H1[mh_ad E k]? = some (vp_cell _ _)
    rw [e, vp_cell_q, vp_cell_q, arrV_store]
    congr 2
    funext q
    by_cases hq : q = i.toNatClampNeg
    · subst hq
      simp [updV, va_up, va_rf]
    · simp [updV, va_up, hq]
/-- a step that makes a cell -/
theorem mh_grow {pc2 kd ln : Nat} {st st2 : List Value} (k : mh_go P d M pc2 lv st2 (mh_new h kd ln) r h')
    (f : ∀ (p : Program) (l : Launch) (e : Env) (R : Room) (s : State) (m : MethodId) (args : Array Value) (below : List Frame) (meth : Method) (c : Code) (H : Heap) (locs : List Loc) (cells slots : Nat) (ls : Array Slot) (E : mh_E) (Q : State → Prop), P E → mh_X M E p s m args meth c → mh_P E h H → va_S (mh_A E) s.heap H locs → cells + 1 ≤ R.cells → slots + ln ≤ R.slots →
      (∀ (H1 : Heap), mh_P E (mh_new h kd ln) H1 → va_S (mh_A E) s.heap H1 locs → W p l e R s m args below meth c H1 locs (cells + 1) (slots + ln) Q (F0 m pc2 ls (st2.map (mh_c E)))) → W p l e R s m args below meth c H locs cells slots Q (F0 m pc ls (st.map (mh_c E)))) : mh_go P d M pc lv st h r h' := by
  have k1 : mh_n h + 1 ≤ mh_n h' := k.1.1
  have k2 : mh_z h + ln ≤ mh_z h' := k.1.2
  exact ⟨⟨by omega, by omega⟩, fun p l e R s m args below meth c H locs cells slots ls E n0 z0 mc ms hPE hX hf hl hc hs hP hS hv hnn e1 e2 e3 e4 => f p l e R s m args below meth c H locs cells slots ls E _ hPE hX hP hS (by omega) (by omega) (fun H1 hP1 hS1 => k.2 p l e R s m args below meth c H1 locs (cells + 1) (slots + ln) ls E n0 z0 mc ms hPE hX hf hl hc hs hP1 hS1 hv hnn (by show cells + 1 + n0 = mh_n h + 1; omega) (by show slots + ln + z0 = mh_z h + ln; omega) e3 e4)⟩
theorem mh_new_other {E : mh_E} {kd ln a : Nat} (ha : a ≠ mh_n h) : mh_cell E (mh_new h kd ln) a = mh_cell E h a :=
  mh_cell_eq (if_neg ha) (if_neg ha) (by funext b; exact if_neg ha) (by funext b; exact if_neg ha)
theorem mh_P.push {E : mh_E} {H H1 : Heap} {kd ln : Nat} (hP : mh_P E h H) (hlt : mh_n h < 1000000000) (hz : H1.size = H.size + 1) (ho : ∀ q, q < H.size → H1[q]? = H[q]?) (hc : va_at (mh_D E) mh_cl (H.size, mh_cell E (mh_new h kd ln) (mh_n h)) H1) : mh_P E (mh_new h kd ln) H1 := by
  refine ⟨by rw [hz, hP.1]; rfl, hlt, fun k q hq => ?_⟩
  obtain ⟨hk, rfl⟩ := mh_ws_some hq
  have hk2 : k < mh_n h + 1 := hk
  by_cases hkn : k = mh_n h
  · subst hkn
    rw [mh_ad_lt hlt, ← hP.1]
    exact hc
  · rw [mh_new_other hkn]
    have hat := hP.2.2 k _ (mh_ws_get (show k < mh_n h by omega))
    exact hat.kept (ho _ hat.lt)
theorem mh_S_push {E : mh_E} {H0 H H1 : Heap} {locs : List Loc} (hS : va_S (mh_A E) H0 H locs) (hz : H1.size = H.size + 1) (ho : ∀ q, q < H.size → H1[q]? = H[q]?) : va_S (mh_A E) H0 H1 locs :=
  ⟨Nat.le_trans hS.1 (by omega), fun x h1 h2 => (ho x (Nat.lt_of_lt_of_le h1 hS.1)).trans (hS.2.1 x h1 h2), hS.2.2⟩
theorem st_new {index ci : Nat} (hd : decode M.2.1 pc = .ok (.new index, 3)) (hci : ci < 13) (hcl : Cond.classLink M.1.cls index (mh_R ci) ∈ mh_T) (hin : Cond.instantiable (mh_R ci) (mh_N ci) ∈ mh_T) (hini : Cond.initialized (mh_R ci) ∈ mh_T) (hlt : mh_n h < 1000000000) (kk : mh_go P d M (pc + 3) lv (.ref (mh_n h) :: rest) (mh_new h (ci + 2) (mh_N ci)) r h') : mh_go P d M pc lv rest h r h' := by
  refine mh_grow kk (fun p l e R s m args below meth c H locs cells slots ls E Q hPE hX hP hS h1 h2 w => ?_)
  obtain ⟨hx, hb, hml, hr, hlk, hown, hnm, hts, hKU, hSH, hsz⟩ := hX
  have hKn := hKU.1.1 ci _ (mh_cl_get ci hci)
  refine W.newcK hx hb hown (hts _ hcl) (hts _ hin) (hts _ hini) rfl hd h1 h2 hKn.2.1 rfl fun H1 kC hkC e1 z1 o1 => ?_
  have w1 := w H1 (hP.push hlt z1 o1 ?_) (mh_S_push hS z1 o1)
  · have e : mh_c E (.ref (mh_n h)) = .ref H.size := by show Value.ref (mh_ad E _) = _; rw [mh_ad_lt hlt, hP.1]
    simp only [List.map_cons, e] at w1
    exact w1
  · rw [mh_cell_o (show mh_k (mh_new h (ci + 2) (mh_N ci)) (mh_n h) = ci + 2 from if_pos rfl)]
    refine ⟨_, mh_cl_get ci hci, (u_born (mh_ty ci) hts (mh_lay ci hci) hKn hkC e1 (mh_typ ci hci)).to (fun j hj => ?_)⟩
    rw [mh_def ci hci j hj]
    show _ = vp_V _ j
    unfold vp_V
    rw [List.getD_eq_getElem?_getD, List.getElem?_map, List.getElem?_range hj]
    show _ = mh_fv E (mh_new h (ci + 2) (mh_N ci)) ci (mh_n h) j
    unfold mh_fv
    have e1 : mh_r (mh_new h (ci + 2) (mh_N ci)) (mh_n h) j = none := if_pos rfl
    have e2 : mh_i (mh_new h (ci + 2) (mh_N ci)) (mh_n h) j = 0 := if_pos rfl
    rw [e1, e2]
    rfl
theorem mh_arrI : Cond.arrayClass .int ∈ tables_1 := by decide +kernel
theorem st_newa {n : Int32} {N : Nat} (hd : decode M.2.1 pc = .ok (.newarray .int, 2)) (hn : ¬ n < 0) (hN : n.toNatClampNeg = N) (hlt : mh_n h < 1000000000) (hb9 : N ≤ 134217728) (kk : mh_go P d M (pc + 2) lv (.ref (mh_n h) :: rest) (mh_new h 0 N) r h') : mh_go P d M pc lv (.int n :: rest) h r h' := by
  refine mh_grow kk (fun p l e R s m args below meth c H locs cells slots ls E Q hPE hX hP hS h1 h2 w => ?_)
  obtain ⟨hx, hb, hml, hr, hlk, hown, hnm, hts, hKU, hSH, hsz⟩ := hX
  refine va_newaK (atype := .int) hx hb (hts _ (mh_T_in (List.mem_append_right _ mh_arrI) rfl)) rfl hd rfl hn hN (by show N * 4 ≤ _; omega) h1 h2 rfl fun H1 cA e1 z1 o1 hAr hNm => ?_
  have hcA : cA = mh_cI E := Option.some.inj (hNm.symm.trans (hKU.1.2 0 _ rfl).2)
  subst hcA
  have w1 := w H1 (hP.push hlt z1 o1 ?_) (mh_S_push hS z1 o1)
  · have e : mh_c E (.ref (mh_n h)) = .ref H.size := by show Value.ref (mh_ad E _) = _; rw [mh_ad_lt hlt, hP.1]
    simp only [List.map_cons, e] at w1
    exact w1
  · rw [mh_cell_i (show mh_k (mh_new h 0 N) (mh_n h) = 0 from if_pos rfl)]
    show H1[H.size]? = some (vp_cell _ _)
    rw [e1, vp_cell_i]
    have e1 : mh_i (mh_new h 0 N) (mh_n h) = fun _ => 0 := by funext b; exact if_pos rfl
    have e2 : mh_l (mh_new h 0 N) (mh_n h) = N := if_pos rfl
    rw [e1, e2]
    rfl
theorem st_newq {index : Nat} {n : Int32} {N : Nat} (hd : decode M.2.1 pc = .ok (.anewarray index, 3)) (hcl : Cond.classLink M.1.cls index RX9 ∈ mh_T) (hn : ¬ n < 0) (hN : n.toNatClampNeg = N) (hlt : mh_n h < 1000000000) (hb9 : N ≤ 134217728) (kk : mh_go P d M (pc + 3) lv (.ref (mh_n h) :: rest) (mh_new h 1 N) r h') : mh_go P d M pc lv (.int n :: rest) h r h' := by
  refine mh_grow kk (fun p l e R s m args below meth c H locs cells slots ls E Q hPE hX hP hS h1 h2 w => ?_)
  obtain ⟨hx, hb, hml, hr, hlk, hown, hnm, hts, hKU, hSH, hsz⟩ := hX
  subst hN
  refine W.anew hx hb hown (hts _ hcl) (va_AO.use hKU.2.2.2.1) rfl hd rfl hn (by omega) h1 h2 fun cA kA comp f1 f2 f3 f4 => ?_
  generalize hH1 : H.push ({ cls := cA, slots := Array.replicate n.toNatClampNeg .null, vm := .none } : Cell) = H1
  have z1 : H1.size = H.size + 1 := by rw [← hH1, Array.size_push]
  have e1 : H1[H.size]? = some (arrV cA n.toNatClampNeg (fun _ => .null)) := by rw [← hH1, Array.getElem?_push_size, ← arrV_new]
  have o1 : ∀ q : Nat, q < H.size → H1[q]? = H[q]? := fun q hq => by rw [← hH1, Array.getElem?_push, if_neg (Nat.ne_of_lt hq)]
  obtain ⟨kA', comp', k1, k2, k3, k4⟩ := (hKU.1.2 1 _ rfl).2
  have hcA : cA = mh_cW E := Option.some.inj (f1.symm.trans k4)
  subst hcA
  have w1 := w H1 (hP.push hlt z1 o1 ?_) (mh_S_push hS z1 o1)
  · have e : mh_c E (.ref (mh_n h)) = .ref H.size := by show Value.ref (mh_ad E _) = _; rw [mh_ad_lt hlt, hP.1]
    simp only [List.map_cons, e] at w1
    exact w1
  · rw [mh_cell_w (show mh_k (mh_new h 1 n.toNatClampNeg) (mh_n h) = 1 from if_pos rfl)]
    show H1[H.size]? = some (vp_cell _ _)
    rw [e1, vp_cell_q]
    have e1 : mh_r (mh_new h 1 n.toNatClampNeg) (mh_n h) = fun _ => none := by funext b; exact if_pos rfl
    have e2 : mh_l (mh_new h 1 n.toNatClampNeg) (mh_n h) = n.toNatClampNeg := if_pos rfl
    rw [e1, e2]
    rfl
/-! constants -/
theorem st_ldc {index : Nat} {v : Int32} (hd : decode M.2.1 pc = .ok (.ldc index, 2)) (hq : Cond.constant M.1.cls index v ∈ mh_T) (kk : mh_go P d M (pc + 2) lv (.int v :: rest) h r h') : mh_go P d M pc lv rest h r h' :=
  mh_move kk (fun p l e R s m args below meth c H locs cells slots ls E Q hPE hX hv hP w => lv_ldc hX.1 hX.2.1 hX.2.2.2.2.2.1 (hX.2.2.2.2.2.2.2.1 _ hq) hd w)
theorem st_ldcw {index : Nat} {v : Int32} (hd : decode M.2.1 pc = .ok (.ldc_w index, 3)) (hq : Cond.constant M.1.cls index v ∈ mh_T) (kk : mh_go P d M (pc + 3) lv (.int v :: rest) h r h') : mh_go P d M pc lv rest h r h' :=
  mh_move kk (fun p l e R s m args below meth c H locs cells slots ls E Q hPE hX hv hP w => lv_ldcw hX.1 hX.2.1 hX.2.2.2.2.2.1 (hX.2.2.2.2.2.2.2.1 _ hq) hd w)
theorem st_ldc2 {index : Nat} {v : Int64} (hd : decode M.2.1 pc = .ok (.ldc2_w index, 3)) (hq : Cond.constantLong M.1.cls index v ∈ mh_T) (kk : mh_go P d M (pc + 3) lv (.long v :: rest) h r h') : mh_go P d M pc lv rest h r h' :=
  mh_move kk (fun p l e R s m args below meth c H locs cells slots ls E Q hPE hX hv hP w => lv_ldc2 hX.1 hX.2.1 hX.2.2.2.2.2.1 (hX.2.2.2.2.2.2.2.1 _ hq) hd w)
theorem st_ldcS {index i : Nat} {tx : String} (hd : decode M.2.1 pc = .ok (.ldc index, 2)) (hq : (M.1.cls, index, tx, i) ∈ mh_str) (kk : mh_go P d M (pc + 2) lv (.ref (1000000001 + i) :: rest) h r h') : mh_go P d M pc lv rest h r h' :=
  mh_move kk (fun p l e R s m args below meth c H locs cells slots ls E Q hPE hX hv hP w => va_ldcS hX.1 hX.2.1 hX.2.2.2.2.2.1 (hX.2.2.2.2.2.2.2.2.1.2.2.2.2 _ hq) hd (by
    have e : mh_c E (.ref (1000000001 + i)) = .ref (mh_pre E (1 + i)) := by
      show Value.ref (mh_ad E _) = _
      unfold mh_ad
      rw [if_neg (by omega), show 1000000001 + i - 1000000000 = 1 + i by omega]
    simp only [List.map_cons, e] at w
    exact w))
/-- the script -/
theorem st_sld {i : Int32} (L : Nat) (xs : Nat → Int32) (hd : decode M.2.1 pc = .ok (.iaload, 1)) (hE : ∀ E, P E → mh_L E = L ∧ mh_xs E = xs) (hi : ¬ (i < 0 ∨ L ≤ i.toNatClampNeg)) (kk : mh_go P d M (pc + 1) lv (.int (xs i.toNatClampNeg) :: rest) h r h') : mh_go P d M pc lv (.int i :: .ref 1000000000 :: rest) h r h' := by
  refine mh_chg (h2 := h) rfl rfl kk (fun p l e R s m args below meth c H locs cells slots ls E Q hPE hX hv hP hS _ _ w => ?_)
  obtain ⟨e1, e2⟩ := hE E hPE
  subst e1; subst e2
  have hSH := hX.2.2.2.2.2.2.2.2.2.1
  exact va_sld hX.1 hX.2.1 hSH.2.2.1 (Nat.lt_of_lt_of_le hSH.2.2.2 hX.2.2.2.2.2.2.2.2.2.2) (Nat.not_le.mpr hSH.2.2.2) hS hi hd (w H locs hP hS)
theorem st_slen (L : Nat) (hd : decode M.2.1 pc = .ok (.arraylength, 1)) (hE : ∀ E, P E → mh_L E = L) (kk : mh_go P d M (pc + 1) lv (.int (Int32.ofNat L) :: rest) h r h') : mh_go P d M pc lv (.ref 1000000000 :: rest) h r h' := by
  refine mh_chg (h2 := h) rfl rfl kk (fun p l e R s m args below meth c H locs cells slots ls E Q hPE hX hv hP hS _ _ w => ?_)
  have e1 := hE E hPE
  subst e1
  have hSH := hX.2.2.2.2.2.2.2.2.2.1
  exact va_slen hX.1 hX.2.1 hSH.2.2.1 (Nat.lt_of_lt_of_le hSH.2.2.2 hX.2.2.2.2.2.2.2.2.2.2) (Nat.not_le.mpr hSH.2.2.2) hS hd (w H locs hP hS)
/-! classes asked for -/
theorem mh_recv {E : mh_E} {s : State} {H : Heap} {k ci : Nat} (hKU : mh_KU E s) (hP : mh_P E h H) (hci : ci < 13) (hk : mh_k h k = ci + 2) (hn : k < mh_n h) : ∃ cell : Cell, H[mh_ad E k]? = some cell ∧ cell.vm.isStatics = false ∧ s.vm.findClass (mh_R ci) = some cell.cls :=
  va_recv hKU.1 hP.2.2 (mh_cl_get ci hci) ((mh_ws_get hn).trans (by rw [mh_cell_o hk]))
theorem st_instY {index k ci cj : Nat} (hd : decode M.2.1 pc = .ok (.instanceof index, 3)) (hci : ci < 13) (hk : mh_k h k = ci + 2) (hn : k < mh_n h) (hl : Cond.classLink M.1.cls index (mh_R cj) ∈ mh_T) (hc : ci = cj ∨ Cond.castable (mh_R ci) (mh_R cj) ∈ mh_nest) (kk : mh_go P d M (pc + 3) lv (.int 1 :: rest) h r h') : mh_go P d M pc lv (.ref k :: rest) h r h' :=
  mh_move kk (fun p l e R s m args below meth c H locs cells slots ls E Q hPE hX hv hP w => by
    have hr := mh_recv hX.2.2.2.2.2.2.2.2.1 hP hci hk hn
    rcases hc with rfl | hc
    · exact va_instE hX.1 hX.2.1 hX.2.2.2.2.2.1 (hX.2.2.2.2.2.2.2.1 _ hl) hr hd w
    · exact va_instY hX.1 hX.2.1 hX.2.2.2.2.2.1 (hX.2.2.2.2.2.2.2.1 _ hl) (hX.2.2.2.2.2.2.2.2.1.2.1 _ hc) hr hd w)
theorem st_instN {index k ci cj : Nat} (hd : decode M.2.1 pc = .ok (.instanceof index, 3)) (hci : ci < 13) (hk : mh_k h k = ci + 2) (hn : k < mh_n h) (hl : Cond.classLink M.1.cls index (mh_R cj) ∈ mh_T) (hc : (mh_R ci, mh_R cj) ∈ mh_noc) (kk : mh_go P d M (pc + 3) lv (.int 0 :: rest) h r h') : mh_go P d M pc lv (.ref k :: rest) h r h' :=
  mh_move kk (fun p l e R s m args below meth c H locs cells slots ls E Q hPE hX hv hP w => va_instNo hX.1 hX.2.1 hX.2.2.2.2.2.1 (hX.2.2.2.2.2.2.2.1 _ hl) (hX.2.2.2.2.2.2.2.2.1.2.2.1 _ hc) (mh_recv hX.2.2.2.2.2.2.2.2.1 hP hci hk hn) hd w)
theorem st_castE {index k ci : Nat} (hd : decode M.2.1 pc = .ok (.checkcast index, 3)) (hci : ci < 13) (hk : mh_k h k = ci + 2) (hn : k < mh_n h) (hl : Cond.classLink M.1.cls index (mh_R ci) ∈ mh_T) (kk : mh_go P d M (pc + 3) lv (.ref k :: rest) h r h') : mh_go P d M pc lv (.ref k :: rest) h r h' :=
  mh_move kk (fun p l e R s m args below meth c H locs cells slots ls E Q hPE hX hv hP w => va_castE hX.1 hX.2.1 hX.2.2.2.2.2.1 (hX.2.2.2.2.2.2.2.1 _ hl) (mh_recv hX.2.2.2.2.2.2.2.2.1 hP hci hk hn) hd w)
end MHN
