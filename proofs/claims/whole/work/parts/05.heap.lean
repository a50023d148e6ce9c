/-! stores into locals; the heap's rows; ends -/
section MHL
variable {P : mh_E → Prop} {d : Nat} {M : mh_M} {pc : Nat} {lv : List (Option Value)} {rest : List Value} {h : mh_H} {r : Option Value} {h' : mh_H}
def mh_ok (lv : List (Option Value)) (i : Nat) : Bool := match i with
  | 0 => true
  | j + 1 => match lv[j]? with
    | some (some w) => w.category == 1
    | _ => true
theorem mh_sto {E : mh_E} {ls : Array Slot} {nL i : Nat} {v : Value} (hk : mh_ok lv i = true) (hv : lv_has ls nL ((i, mh_c E v) :: (mh_as E lv).filter (fun q => !(q.1 == i) && !(q.1 + 1 == i && q.2.category == 2)))) : lv_has ls nL (mh_as E (lv.set i (some v))) := by
  refine ⟨hv.1, hv.2.1, fun q hq => ?_⟩
  obtain ⟨j, w⟩ := q
  obtain ⟨v', h1, rfl⟩ := mh_as_mem.mp hq
  rw [List.getElem?_set] at h1
  by_cases hij : i = j
  · subst hij
    rw [if_pos rfl] at h1
    split at h1
    · cases h1
      exact hv.2.2 _ List.mem_cons_self
    · cases h1
  · rw [if_neg hij] at h1
    refine hv.2.2 _ (List.mem_cons_of_mem _ (List.mem_filter.mpr ⟨mh_as_mem.mpr ⟨v', h1, rfl⟩, ?_⟩))
    have e1 : (j == i) = false := by simpa using fun e : j = i => hij e.symm
    have e2 : (j + 1 == i && (mh_c E v').category == 2) = false := by
      by_cases hji : j + 1 = i
      · subst hji
        simp only [mh_ok, h1] at hk
        rw [mh_c_cat]
        have := of_decide_eq_true (show decide (v'.category = 1) = true from hk)
        rw [this]
        simp
      · have : (j + 1 == i) = false := by simpa using hji
        rw [this]; rfl
    show (!(j == i) && !(j + 1 == i && (mh_c E v').category == 2)) = true
    rw [e1, e2]; rfl
theorem mh_stoW {pc2 : Nat} {st st2 : List Value} {i : Nat} {v : Value} (hk : mh_ok lv i = true) (hi : i < M.2.2.1) (k : mh_go P d M pc2 (lv.set i (some v)) st2 h r h')
    (f : ∀ (p : Program) (l : Launch) (e : Env) (R : Room) (s : State) (m : MethodId) (args : Array Value) (below : List Frame) (meth : Method) (c : Code) (H : Heap) (locs : List Loc) (cells slots : Nat) (ls : Array Slot) (E : mh_E) (Q : State → Prop), P E → mh_X M E p s m args meth c → lv_has ls M.2.2.1 (mh_as E lv) →
      (∀ ls' : Array Slot, lv_has ls' M.2.2.1 ((i, mh_c E v) :: (mh_as E lv).filter (fun q => !(q.1 == i) && !(q.1 + 1 == i && q.2.category == 2))) → W p l e R s m args below meth c H locs cells slots Q (F0 m pc2 ls' (st2.map (mh_c E)))) → W p l e R s m args below meth c H locs cells slots Q (F0 m pc ls (st.map (mh_c E)))) : mh_go P d M pc lv st h r h' :=
  ⟨k.1, fun p l e R s m args below meth c H locs cells slots ls E n0 z0 mc ms hPE hX hf hl hc hs hP hS hv hn e1 e2 e3 e4 => f p l e R s m args below meth c H locs cells slots ls E _ hPE hX hv (fun ls' hv' => k.2 p l e R s m args below meth c H locs cells slots ls' E n0 z0 mc ms hPE hX hf hl hc hs hP hS (mh_sto hk hv') (by rw [List.length_set]; exact hn) e1 e2 e3 e4)⟩
theorem st_istore_n {i : Fin 4} {x : Int32} {lv' : List (Option Value)} (hd : decode M.2.1 pc = .ok (.istore_n i, 1)) (hk : mh_ok lv (i : Nat) = true) (hi : (i : Nat) < M.2.2.1) (hl : lv.set (i : Nat) (some (.int x)) = lv') (k : mh_go P d M (pc + 1) lv' rest h r h') : mh_go P d M pc lv (.int x :: rest) h r h' := by
  subst hl
  exact mh_stoW hk hi k (fun p l e R s m args below meth c H locs cells slots ls E Q hPE hX hv w => lv_istore_n hX.1 hX.2.1 hd rfl hv hi rfl (fun ls' hv' => w ls' hv'))
theorem st_istore {i : Nat} {x : Int32} {lv' : List (Option Value)} (hd : decode M.2.1 pc = .ok (.istore i, 2)) (hk : mh_ok lv i = true) (hi : i < M.2.2.1) (hl : lv.set i (some (.int x)) = lv') (k : mh_go P d M (pc + 2) lv' rest h r h') : mh_go P d M pc lv (.int x :: rest) h r h' := by
  subst hl
  exact mh_stoW hk hi k (fun p l e R s m args below meth c H locs cells slots ls E Q hPE hX hv w => lv_istore hX.1 hX.2.1 hd hv hi rfl (fun ls' hv' => w ls' hv'))
theorem st_astore_n {i : Fin 4} {x : Nat} {lv' : List (Option Value)} (hd : decode M.2.1 pc = .ok (.astore_n i, 1)) (hk : mh_ok lv (i : Nat) = true) (hi : (i : Nat) < M.2.2.1) (hl : lv.set (i : Nat) (some (.ref x)) = lv') (k : mh_go P d M (pc + 1) lv' rest h r h') : mh_go P d M pc lv (.ref x :: rest) h r h' := by
  subst hl
  exact mh_stoW hk hi k (fun p l e R s m args below meth c H locs cells slots ls E Q hPE hX hv w => lv_astore_n hX.1 hX.2.1 hd rfl hv hi rfl (fun ls' hv' => w ls' hv'))
theorem st_astore {i : Nat} {x : Nat} {lv' : List (Option Value)} (hd : decode M.2.1 pc = .ok (.astore i, 2)) (hk : mh_ok lv i = true) (hi : i < M.2.2.1) (hl : lv.set i (some (.ref x)) = lv') (k : mh_go P d M (pc + 2) lv' rest h r h') : mh_go P d M pc lv (.ref x :: rest) h r h' := by
  subst hl
  exact mh_stoW hk hi k (fun p l e R s m args below meth c H locs cells slots ls E Q hPE hX hv w => lv_astore hX.1 hX.2.1 hd hv hi rfl (fun ls' hv' => w ls' hv'))
theorem st_iinc {i : Nat} {n : Int} {x : Int32} {lv' : List (Option Value)} (hd : decode M.2.1 pc = .ok (.iinc i n, 3)) (hx : lv[i]? = some (some (.int x))) (hk : mh_ok lv i = true) (hi : i < M.2.2.1) (hl : lv.set i (some (.int (x + Int32.ofInt n))) = lv') (k : mh_go P d M (pc + 3) lv' rest h r h') : mh_go P d M pc lv rest h r h' := by
  subst hl
  refine mh_stoW hk hi k (fun p l e R s m args below meth c H locs cells slots ls E Q hPE hX hv w => ?_)
  obtain ⟨q, hq⟩ := List.getElem?_of_mem (mh_as_mem (E := E).mpr ⟨_, hx, rfl⟩)
  exact lv_iinc hX.1 hX.2.1 hd hv hq rfl hi rfl (fun ls' hv' => w ls' hv')
/-- fewer locals are known further on -/
theorem st_less {lv' : List (Option Value)} {st : List Value} (hl : lv'.length = lv.length) (hs : ∀ (i : Nat) (v : Value), lv'[i]? = some (some v) → lv[i]? = some (some v)) (k : mh_go P d M pc lv' st h r h') : mh_go P d M pc lv st h r h' :=
  ⟨k.1, fun p l e R s m args below meth c H locs cells slots ls E n0 z0 mc ms hPE hX hf hlo hc hsl hP hS hv hn e1 e2 e3 e4 => k.2 p l e R s m args below meth c H locs cells slots ls E n0 z0 mc ms hPE hX hf hlo hc hsl hP hS ⟨hv.1, hv.2.1, fun q hq => by
    obtain ⟨v, h1, h2⟩ := mh_as_mem.mp (show (q.1, q.2) ∈ mh_as E lv' from hq)
    exact hv.2.2 q (show (q.1, q.2) ∈ mh_as E lv from mh_as_mem.mpr ⟨v, hs _ _ h1, h2⟩)⟩ (hl.trans hn) e1 e2 e3 e4⟩
theorem mh_go.deep {d2 : Nat} {st : List Value} (hd : d ≤ d2) (k : mh_go P d M pc lv st h r h') : mh_go P d2 M pc lv st h r h' :=
  ⟨k.1, fun p l e R s m args below meth c H locs cells slots ls E n0 z0 mc ms hPE hX hf hlo => k.2 p l e R s m args below meth c H locs cells slots ls E n0 z0 mc ms hPE hX (Nat.le_trans hd hf) (Nat.le_trans (Nat.mul_le_mul_left 64 hd) hlo)⟩
/-! the ends -/
theorem st_ireturn {x : Int32} (hd : decode M.2.1 pc = .ok (.ireturn, 1)) (hr : M.2.2.2 = some .int) : mh_go P d M pc lv [.int x] h (some (.int x)) h :=
  ⟨⟨Nat.le_refl _, Nat.le_refl _⟩, fun p l e R s m args below meth c H locs cells slots ls E n0 z0 mc ms hPE hX hf hlo hc hsl hP hS hv hn e1 e2 e3 e4 => by
    obtain rfl : mc = cells := by omega
    obtain rfl : ms = slots := by omega
    exact W.iret (Qc := mh_Q E (some (.int x)) h) (free := mh_A E) hX.1 hX.2.1 (hX.2.2.2.1.trans hr) (fun t ht _ => ⟨rfl, by rw [ht]; exact hP, hS.F ht⟩) hS.2.2 hd hX.2.2.2.2.1⟩
theorem st_zreturn {x : Int32} {ty : FieldType} (hd : decode M.2.1 pc = .ok (.ireturn, 1)) (hr : M.2.2.2 = some ty) (hq : narrow ty (.int x) = .int x) : mh_go P d M pc lv [.int x] h (some (.int x)) h :=
  ⟨⟨Nat.le_refl _, Nat.le_refl _⟩, fun p l e R s m args below meth c H locs cells slots ls E n0 z0 mc ms hPE hX hf hlo hc hsl hP hS hv hn e1 e2 e3 e4 => by
    obtain rfl : mc = cells := by omega
    obtain rfl : ms = slots := by omega
    exact W.zret (Qc := mh_Q E (some (.int x)) h) (free := mh_A E) hX.1 hX.2.1 (hX.2.2.2.1.trans hr) hq (fun t ht _ => ⟨rfl, by rw [ht]; exact hP, hS.F ht⟩) hS.2.2 hd hX.2.2.2.2.1⟩
theorem st_return (hd : decode M.2.1 pc = .ok (.return_, 1)) (hr : M.2.2.2 = none) : mh_go P d M pc lv [] h none h :=
  ⟨⟨Nat.le_refl _, Nat.le_refl _⟩, fun p l e R s m args below meth c H locs cells slots ls E n0 z0 mc ms hPE hX hf hlo hc hsl hP hS hv hn e1 e2 e3 e4 => by
    obtain rfl : mc = cells := by omega
    obtain rfl : ms = slots := by omega
    exact W.vret (Qc := mh_Q E none h) (free := mh_A E) hX.1 hX.2.1 (hX.2.2.2.1.trans hr) (fun t ht _ => ⟨rfl, by rw [ht]; exact hP, hS.F ht⟩) hS.2.2 hd hX.2.2.2.2.1⟩
theorem st_areturn {x : Nat} {C : String} (hd : decode M.2.1 pc = .ok (.areturn, 1)) (hr : M.2.2.2 = some (.object C)) : mh_go P d M pc lv [.ref x] h (some (.ref x)) h :=
  ⟨⟨Nat.le_refl _, Nat.le_refl _⟩, fun p l e R s m args below meth c H locs cells slots ls E n0 z0 mc ms hPE hX hf hlo hc hsl hP hS hv hn e1 e2 e3 e4 => by
    obtain rfl : mc = cells := by omega
    obtain rfl : ms = slots := by omega
    exact W.aret (Qc := mh_Q E (some (.ref x)) h) (free := mh_A E) hX.1 hX.2.1 (hX.2.2.2.1.trans hr) (Or.inl ⟨_, rfl⟩) (Or.inr ⟨_, rfl⟩) (fun t ht _ => ⟨rfl, by rw [ht]; exact hP, hS.F ht⟩) hS.2.2 hd hX.2.2.2.2.1⟩
end MHL
