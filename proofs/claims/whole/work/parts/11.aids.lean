/-! aids of the printed walks -/
def mh_subL : List (Option Value) → List (Option Value) → Prop
  | [], [] => True
  | a :: as, b :: bs => (a = none ∨ a = b) ∧ mh_subL as bs
  | _, _ => False
theorem mh_subL_len : ∀ {a b : List (Option Value)}, mh_subL a b → a.length = b.length
  | [], [], _ => rfl
  | _ :: _, _ :: _, h => by simp only [List.length_cons]; rw [mh_subL_len h.2]
theorem mh_subL_get : ∀ {a b : List (Option Value)}, mh_subL a b → ∀ (i : Nat) (v : Value), a[i]? = some (some v) → b[i]? = some (some v)
  | [], [], _, _, _, h => h
  | x :: _, y :: _, h, 0, v, hv => by
    simp at hv ⊢
    rcases h.1 with q | q
    · rw [q] at hv; cases hv
    · rw [← q]; exact hv
  | _ :: _, _ :: _, h, i + 1, v, hv => by
    simp at hv ⊢
    exact mh_subL_get h.2 i v hv
theorem mh_or {α : Type} {c : Prop} {dc : Decidable c} {A B : Option α} {q : α} (h : (@ite _ c dc A B) = some q) : (c ∧ A = some q) ∨ (¬ c ∧ B = some q) := by
  by_cases hc : c
  · rw [if_pos hc] at h; exact Or.inl ⟨hc, h⟩
  · rw [if_neg hc] at h; exact Or.inr ⟨hc, h⟩
def sI {α : Type} (L : Nat) (i : Int32) (f : Option α) : Option α := if i < 0 ∨ L ≤ i.toNatClampNeg then none else f
section MHAID
variable {P : mh_E → Prop} {d : Nat} {M : mh_M} {pc : Nat} {lv : List (Option Value)} {rest : List Value} {h : mh_H} {r : Option Value} {h' : mh_H} {α : Type} {z : α}
theorem st_lesS {lv' : List (Option Value)} {st : List Value} (hs : mh_subL lv' lv) (k : mh_go P d M pc lv' st h r h') : mh_go P d M pc lv st h r h' := st_less (mh_subL_len hs) (mh_subL_get hs) k
theorem bd_leti {x : Int32} {f : Int32 → Option α} (hq : mh_let x f = some z) (k : ∀ v, f v = some z → mh_go P d M pc lv (.int v :: rest) h r h') : mh_go P d M pc lv (.int x :: rest) h r h' := k x hq
theorem bd_sld {i : Int32} {L : Nat} {xs : Nat → Int32} {f : Option α} (hq : sI L i f = some z) (hd : decode M.2.1 pc = .ok (.iaload, 1)) (hE : ∀ E, P E → mh_L E = L ∧ mh_xs E = xs) (k : f = some z → mh_go P d M (pc + 1) lv (.int (xs i.toNatClampNeg) :: rest) h r h') : mh_go P d M pc lv (.int i :: .ref 1000000000 :: rest) h r h' := by
  unfold sI at hq
  by_cases hc : i < 0 ∨ L ≤ i.toNatClampNeg
  · rw [if_pos hc] at hq; cases hq
  · rw [if_neg hc] at hq
    exact st_sld L xs hd hE hc (k hq)
end MHAID
set_option maxRecDepth 100000 in
theorem mh_cast23 : Cond.castable (mh_R 3) (mh_R 2) ∈ mh_nest := List.mem_filter.mpr ⟨List.mem_append_right _ (by decide +kernel), rfl⟩
set_option maxRecDepth 100000 in
theorem mh_cast70 : Cond.castable (mh_R 0) (mh_R 7) ∈ mh_nest := List.mem_filter.mpr ⟨List.mem_append_right _ (by decide +kernel), rfl⟩
theorem mh_w6c {ci : Nat} (h : mh_isW (ci + 2) = true) : ci = 0 ∨ ci = 2 ∨ ci = 3 ∨ ci = 4 ∨ ci = 7 ∨ ci = 9 := by
  unfold mh_isW at h
  simp only [Bool.or_eq_true, beq_iff_eq] at h
  omega
theorem mh_instY2 : ∀ ci, mh_isW (ci + 2) = true → mh_under ci 2 = true → ci = 2 ∨ Cond.castable (mh_R ci) (mh_R 2) ∈ mh_nest := fun ci h hu => by
  rcases mh_w6c h with rfl | rfl | rfl | rfl | rfl | rfl <;> first | exact Or.inl rfl | exact Or.inr mh_cast23 | exact absurd hu (by decide)
theorem mh_instY7 : ∀ ci, mh_isW (ci + 2) = true → mh_under ci 7 = true → ci = 7 ∨ Cond.castable (mh_R ci) (mh_R 7) ∈ mh_nest := fun ci h hu => by
  rcases mh_w6c h with rfl | rfl | rfl | rfl | rfl | rfl <;> first | exact Or.inl rfl | exact Or.inr mh_cast70 | exact absurd hu (by decide)
theorem mh_instY3 : ∀ ci, mh_isW (ci + 2) = true → mh_under ci 3 = true → ci = 3 ∨ Cond.castable (mh_R ci) (mh_R 3) ∈ mh_nest := fun ci h hu => by
  rcases mh_w6c h with rfl | rfl | rfl | rfl | rfl | rfl <;> first | exact Or.inl rfl | exact absurd hu (by decide)
theorem mh_instY4 : ∀ ci, mh_isW (ci + 2) = true → mh_under ci 4 = true → ci = 4 ∨ Cond.castable (mh_R ci) (mh_R 4) ∈ mh_nest := fun ci h hu => by
  rcases mh_w6c h with rfl | rfl | rfl | rfl | rfl | rfl <;> first | exact Or.inl rfl | exact absurd hu (by decide)
theorem mh_instY0 : ∀ ci, mh_isW (ci + 2) = true → mh_under ci 0 = true → ci = 0 ∨ Cond.castable (mh_R ci) (mh_R 0) ∈ mh_nest := fun ci h hu => by
  rcases mh_w6c h with rfl | rfl | rfl | rfl | rfl | rfl <;> first | exact Or.inl rfl | exact absurd hu (by decide)
theorem mh_instN2 : ∀ ci, mh_isW (ci + 2) = true → mh_under ci 2 = false → (mh_R ci, mh_R 2) ∈ mh_noc := fun ci h hu => by
  rcases mh_w6c h with rfl | rfl | rfl | rfl | rfl | rfl <;> first | decide | exact absurd hu (by decide)
theorem mh_instN7 : ∀ ci, mh_isW (ci + 2) = true → mh_under ci 7 = false → (mh_R ci, mh_R 7) ∈ mh_noc := fun ci h hu => by
  rcases mh_w6c h with rfl | rfl | rfl | rfl | rfl | rfl <;> first | decide | exact absurd hu (by decide)
theorem mh_instN3 : ∀ ci, mh_isW (ci + 2) = true → mh_under ci 3 = false → (mh_R ci, mh_R 3) ∈ mh_noc := fun ci h hu => by
  rcases mh_w6c h with rfl | rfl | rfl | rfl | rfl | rfl <;> first | decide | exact absurd hu (by decide)
theorem mh_instN4 : ∀ ci, mh_isW (ci + 2) = true → mh_under ci 4 = false → (mh_R ci, mh_R 4) ∈ mh_noc := fun ci h hu => by
  rcases mh_w6c h with rfl | rfl | rfl | rfl | rfl | rfl <;> first | decide | exact absurd hu (by decide)
theorem mh_instN0 : ∀ ci, mh_isW (ci + 2) = true → mh_under ci 0 = false → (mh_R ci, mh_R 0) ∈ mh_noc := fun ci h hu => by
  rcases mh_w6c h with rfl | rfl | rfl | rfl | rfl | rfl <;> first | decide | exact absurd hu (by decide)
def mh_max (x y : Int32) : Int32 := if x < y then y else x
def mh_min (x y : Int32) : Int32 := if y < x then y else x
theorem mh_wmax : Cond.code Lib.Math.max.name Lib.Math.max.code 2 (some .int) ∈ mh_T := mh_T_in (List.mem_append_right _ (by decide +kernel)) (by decide +kernel)
theorem mh_wmin : Cond.code Lib.Math.min.name Lib.Math.min.code 2 (some .int) ∈ mh_T := mh_T_in (List.mem_append_right _ (by decide +kernel)) (by decide +kernel)
theorem mh_wmaxs : Cond.static Lib.Math.max.name ∈ mh_T := mh_T_in (List.mem_append_right _ (by decide +kernel)) (by decide +kernel)
theorem mh_wmins : Cond.static Lib.Math.min.name ∈ mh_T := mh_T_in (List.mem_append_right _ (by decide +kernel)) (by decide +kernel)
theorem mh_wmath : Cond.initialized "java/lang/Math" ∈ mh_T := mh_T_in (List.mem_append_right _ (by decide +kernel)) (by decide +kernel)
section MHMATH
variable {P : mh_E → Prop} {d : Nat} {M : mh_M} {pc : Nat} {lv : List (Option Value)} {rest : List Value} {h : mh_H} {r : Option Value} {h' : mh_H} {α : Type} {z : α}
theorem st_mmax {index : Nat} {x y : Int32} (hd : decode M.2.1 pc = .ok (.invokestatic index, 3)) (hl : Cond.methodLink M.1.cls index Lib.Math.max.name ∈ mh_T) (hd1 : 1 ≤ d) (hW : (rest.map fun v => v.category).sum ≤ 8) (k : mh_go P d M (pc + 3) lv (.int (mh_max x y) :: rest) h r h') : mh_go P d M pc lv (.int y :: .int x :: rest) h r h' :=
  ⟨k.1, fun p l e R s m args below meth c H locs cells slots ls E n0 z0 mc ms hPE hX hf hlo hc hs hP hS hv hn e1 e2 e3 e4 => by
    have k1 := k.1
    have hW' : ((rest.map (mh_c E)).map fun v => v.category).sum ≤ 8 := by rw [mh_c_cats]; exact hW
    exact va_mmax hX.1 hX.2.1 (hX.2.2.1.trans hv.1.symm) hX.2.2.2.2.2.1 (hX.2.2.2.2.2.2.2.1 _ hl) (hX.2.2.2.2.2.2.2.1 _ mh_wmaxs) (hX.2.2.2.2.2.2.2.1 _ mh_wmath) (hX.2.2.2.2.2.2.2.1 _ mh_wmax) (by omega) (by omega) (by omega) (by omega) hd (k.2 p l e R s m args below meth c H locs cells slots ls E n0 z0 mc ms hPE hX hf hlo hc hs hP hS hv hn e1 e2 e3 e4)⟩
theorem st_mmin {index : Nat} {x y : Int32} (hd : decode M.2.1 pc = .ok (.invokestatic index, 3)) (hl : Cond.methodLink M.1.cls index Lib.Math.min.name ∈ mh_T) (hd1 : 1 ≤ d) (hW : (rest.map fun v => v.category).sum ≤ 8) (k : mh_go P d M (pc + 3) lv (.int (mh_min x y) :: rest) h r h') : mh_go P d M pc lv (.int y :: .int x :: rest) h r h' :=
  ⟨k.1, fun p l e R s m args below meth c H locs cells slots ls E n0 z0 mc ms hPE hX hf hlo hc hs hP hS hv hn e1 e2 e3 e4 => by
    have k1 := k.1
    have hW' : ((rest.map (mh_c E)).map fun v => v.category).sum ≤ 8 := by rw [mh_c_cats]; exact hW
    exact va_mmin hX.1 hX.2.1 (hX.2.2.1.trans hv.1.symm) hX.2.2.2.2.2.1 (hX.2.2.2.2.2.2.2.1 _ hl) (hX.2.2.2.2.2.2.2.1 _ mh_wmins) (hX.2.2.2.2.2.2.2.1 _ mh_wmath) (hX.2.2.2.2.2.2.2.1 _ mh_wmin) (by omega) (by omega) (by omega) (by omega) hd (k.2 p l e R s m args below meth c H locs cells slots ls E n0 z0 mc ms hPE hX hf hlo hc hs hP hS hv hn e1 e2 e3 e4)⟩
end MHMATH
