/-! what a step does to the plain heap, as a partial function; its row from 'it went well' -/
def gI (h : mh_H) (ci a j : Nat) : Option Int32 := if a < mh_n h ∧ mh_k h a = ci + 2 then some (mh_i h a j) else none
def gR (h : mh_H) (ci a j : Nat) : Option Nat := if a < mh_n h ∧ mh_k h a = ci + 2 then mh_r h a j else none
def gW (h : mh_H) (a j : Nat) : Option Int32 := if a < mh_n h ∧ mh_isW (mh_k h a) = true then some (mh_i h a j) else none
def pI (h : mh_H) (ci a j : Nat) (x : Int32) : Option mh_H := if a < mh_n h ∧ mh_k h a = ci + 2 then some (mh_si h a j x) else none
def pB (h : mh_H) (ci a j : Nat) (x : Int32) : Option mh_H := if (a < mh_n h ∧ mh_k h a = ci + 2) ∧ (x = 0 ∨ x = 1) then some (mh_si h a j x) else none
def pR (h : mh_H) (ci a j b : Nat) : Option mh_H := if a < mh_n h ∧ mh_k h a = ci + 2 then some (mh_sr h a j (some b)) else none
def pW (h : mh_H) (a j : Nat) (x : Int32) : Option mh_H := if a < mh_n h ∧ mh_isW (mh_k h a) = true then some (mh_si h a j x) else none
def aI (h : mh_H) (a : Nat) (i : Int32) : Option Int32 := if (a < mh_n h ∧ mh_k h a = 0) ∧ ¬ (i < 0 ∨ mh_l h a ≤ i.toNatClampNeg) then some (mh_i h a i.toNatClampNeg) else none
def uI (h : mh_H) (a : Nat) (i x : Int32) : Option mh_H := if (a < mh_n h ∧ mh_k h a = 0) ∧ ¬ (i < 0 ∨ mh_l h a ≤ i.toNatClampNeg) then some (mh_si h a i.toNatClampNeg x) else none
def aR (h : mh_H) (a : Nat) (i : Int32) : Option Nat := if (a < mh_n h ∧ mh_k h a = 1) ∧ ¬ (i < 0 ∨ mh_l h a ≤ i.toNatClampNeg) then mh_r h a i.toNatClampNeg else none
def uR (h : mh_H) (a : Nat) (i : Int32) (b : Nat) : Option mh_H := if ((a < mh_n h ∧ mh_k h a = 1) ∧ ¬ (i < 0 ∨ mh_l h a ≤ i.toNatClampNeg)) ∧ (b < mh_n h ∧ mh_isW (mh_k h b) = true) then some (mh_sr h a i.toNatClampNeg (some b)) else none
def aL (h : mh_H) (a : Nat) : Option Int32 := if a < mh_n h ∧ (mh_k h a = 0 ∨ mh_k h a = 1) then some (Int32.ofNat (mh_l h a)) else none
def nO (h : mh_H) (ci : Nat) : Option mh_H := if mh_n h < 1000000000 then some (mh_new h (ci + 2) (mh_N ci)) else none
def nA (h : mh_H) (kd : Nat) (n : Int32) : Option mh_H := if mh_n h < 1000000000 ∧ ¬ n < 0 ∧ n.toNatClampNeg ≤ 134217728 then some (mh_new h kd n.toNatClampNeg) else none
def cP (h : mh_H) (a b : Nat) (sp dp n : Int32) : Option mh_H := if (a < mh_n h ∧ mh_k h a = 0) ∧ (b < mh_n h ∧ mh_k h b = 0) ∧ (¬ sp < 0 ∧ ¬ dp < 0 ∧ ¬ n < 0) ∧ sp.toNatClampNeg + n.toNatClampNeg ≤ mh_l h a ∧ dp.toNatClampNeg + n.toNatClampNeg ≤ mh_l h b then some (mh_cp h a b sp.toNatClampNeg dp.toNatClampNeg n.toNatClampNeg) else none
/-- an object of class ci, or nothing -/
def kO {α : Type} (h : mh_H) (ci a : Nat) (f : Option α) : Option α := if a < mh_n h ∧ mh_k h a = ci + 2 then f else none
def kW {α : Type} (h : mh_H) (a : Nat) (f : Option α) : Option α := if a < mh_n h ∧ mh_isW (mh_k h a) = true then f else none
/-- is it of a kind under cj (0 BLIND, 2 OPEN, 3 OVERFLOW, 4 POOL, 7 SIEVE)? -/
def mh_under (ci cj : Nat) : Bool := ci == cj || (cj == 2 && ci == 3) || (cj == 7 && ci == 0)
def iK (h : mh_H) (a cj : Nat) : Option Int32 := if a < mh_n h ∧ mh_isW (mh_k h a) = true then some (if mh_under (mh_k h a - 2) cj = true then 1 else 0) else none
def dN {α : Type} (y : Int32) (f : Option α) : Option α := if y = 0 then none else f
def dL {α : Type} (y : Int64) (f : Option α) : Option α := if y = 0 then none else f
def zB (x : Int32) (h : mh_H) : Option (Int32 × mh_H) := if x = 0 ∨ x = 1 then some (x, h) else none
def mh_let {α β : Type} (x : α) (f : α → Option β) : Option β := f x
theorem mh_ob {α β : Type} {x : Option α} {f : α → Option β} {z : β} (h : x.bind f = some z) : ∃ v, x = some v ∧ f v = some z := by
  cases x with
  | none => cases h
  | some v => exact ⟨v, rfl, h⟩
theorem mh_oi {α : Type} {c : Prop} {dc : Decidable c} {x : Option α} {z : α} (h : (@ite _ c dc x none) = some z) : c ∧ x = some z := by
  by_cases hc : c
  · rw [if_pos hc] at h; exact ⟨hc, h⟩
  · rw [if_neg hc] at h; cases h
theorem mh_w6 {Pr : Nat → Prop} (h0 : Pr 0) (h2 : Pr 2) (h3 : Pr 3) (h4 : Pr 4) (h7 : Pr 7) (h9 : Pr 9) : ∀ k, mh_isW k = true → ∃ ci, k = ci + 2 ∧ ci < 13 ∧ Pr ci := by
  intro k hk
  unfold mh_isW at hk
  simp only [Bool.or_eq_true, beq_iff_eq] at hk
  rcases hk with ((((q | q) | q) | q) | q) | q
  · exact ⟨0, q, by decide, h0⟩
  · exact ⟨2, q, by decide, h2⟩
  · exact ⟨3, q, by decide, h3⟩
  · exact ⟨4, q, by decide, h4⟩
  · exact ⟨7, q, by decide, h7⟩
  · exact ⟨9, q, by decide, h9⟩
/-- a way's field, whatever the way's kind -/
def mh_flw (own : String) (index j : Nat) : Prop := mh_fl own index 0 j ∧ mh_fl own index 2 j ∧ mh_fl own index 3 j ∧ mh_fl own index 4 j ∧ mh_fl own index 7 j ∧ mh_fl own index 9 j
section MHB
variable {P : mh_E → Prop} {d : Nat} {M : mh_M} {pc : Nat} {lv : List (Option Value)} {rest : List Value} {h : mh_H} {r : Option Value} {h' : mh_H} {α : Type} {z : α}
theorem bd_geti {index ci a j : Nat} {f : Int32 → Option α} (hq : (gI h ci a j).bind f = some z) (hd : decode M.2.1 pc = .ok (.getfield index, 3)) (hf : mh_fl M.1.cls index ci j) (hi : mh_isr ci j = false) (k : ∀ v, f v = some z → mh_go P d M (pc + 3) lv (.int v :: rest) h r h') : mh_go P d M pc lv (.ref a :: rest) h r h' := by
  obtain ⟨v, e, hq⟩ := mh_ob hq
  obtain ⟨⟨h1, h2⟩, e⟩ := mh_oi e
  cases e
  exact st_geti hd hf h2 h1 hi (k _ hq)
theorem bd_getr {index ci a j : Nat} {f : Nat → Option α} (hq : (gR h ci a j).bind f = some z) (hd : decode M.2.1 pc = .ok (.getfield index, 3)) (hf : mh_fl M.1.cls index ci j) (hi : mh_isr ci j = true) (k : ∀ v, f v = some z → mh_go P d M (pc + 3) lv (.ref v :: rest) h r h') : mh_go P d M pc lv (.ref a :: rest) h r h' := by
  obtain ⟨v, e, hq⟩ := mh_ob hq
  obtain ⟨⟨h1, h2⟩, e⟩ := mh_oi e
  exact st_getr hd hf h2 h1 hi e (k _ hq)
theorem bd_getw {index a j : Nat} {f : Int32 → Option α} (hq : (gW h a j).bind f = some z) (hd : decode M.2.1 pc = .ok (.getfield index, 3)) (hf : mh_flw M.1.cls index j) (hj : j < 4) (k : ∀ v, f v = some z → mh_go P d M (pc + 3) lv (.int v :: rest) h r h') : mh_go P d M pc lv (.ref a :: rest) h r h' := by
  obtain ⟨v, e, hq⟩ := mh_ob hq
  obtain ⟨⟨h1, h2⟩, e⟩ := mh_oi e
  cases e
  have h4 : j = 0 ∨ j = 1 ∨ j = 2 ∨ j = 3 := by omega
  obtain ⟨f0, f2, f3, f4, f7, f9⟩ := hf
  obtain ⟨ci, hk, hc, hf, hi⟩ := mh_w6 (Pr := fun ci => mh_fl M.1.cls index ci j ∧ mh_isr ci j = false) ⟨f0, by rcases h4 with rfl | rfl | rfl | rfl <;> rfl⟩ ⟨f2, by rcases h4 with rfl | rfl | rfl | rfl <;> rfl⟩ ⟨f3, by rcases h4 with rfl | rfl | rfl | rfl <;> rfl⟩ ⟨f4, by rcases h4 with rfl | rfl | rfl | rfl <;> rfl⟩ ⟨f7, by rcases h4 with rfl | rfl | rfl | rfl <;> rfl⟩ ⟨f9, by rcases h4 with rfl | rfl | rfl | rfl <;> rfl⟩ _ h2
  exact st_geti hd hf hk h1 hi (k _ hq)
theorem bd_puti {index ci a j : Nat} {x : Int32} {f : mh_H → Option α} (hq : (pI h ci a j x).bind f = some z) (hd : decode M.2.1 pc = .ok (.putfield index, 3)) (hf : mh_fl M.1.cls index ci j) (hfin : (mh_TT ci j).2.2.2 = false ∨ (M.1.name = "<init>" ∧ (mh_TT ci j).1 = M.1.cls)) (ht : mh_ty ci j = .int) (k : ∀ v, f v = some z → mh_go P d M (pc + 3) lv rest v r h') : mh_go P d M pc lv (.int x :: .ref a :: rest) h r h' := by
  obtain ⟨v, e, hq⟩ := mh_ob hq
  obtain ⟨⟨h1, h2⟩, e⟩ := mh_oi e
  cases e
  exact st_puti hd hf h2 h1 hfin (Or.inl ht) (k _ hq)
theorem bd_putb {index ci a j : Nat} {x : Int32} {f : mh_H → Option α} (hq : (pB h ci a j x).bind f = some z) (hd : decode M.2.1 pc = .ok (.putfield index, 3)) (hf : mh_fl M.1.cls index ci j) (hfin : (mh_TT ci j).2.2.2 = false ∨ (M.1.name = "<init>" ∧ (mh_TT ci j).1 = M.1.cls)) (ht : mh_ty ci j = .boolean) (k : ∀ v, f v = some z → mh_go P d M (pc + 3) lv rest v r h') : mh_go P d M pc lv (.int x :: .ref a :: rest) h r h' := by
  obtain ⟨v, e, hq⟩ := mh_ob hq
  obtain ⟨⟨⟨h1, h2⟩, h3⟩, e⟩ := mh_oi e
  cases e
  exact st_puti hd hf h2 h1 hfin (Or.inr ⟨ht, h3⟩) (k _ hq)
theorem bd_putr {index ci a j b : Nat} {f : mh_H → Option α} (hq : (pR h ci a j b).bind f = some z) (hd : decode M.2.1 pc = .ok (.putfield index, 3)) (hf : mh_fl M.1.cls index ci j) (hfin : (mh_TT ci j).2.2.2 = false ∨ (M.1.name = "<init>" ∧ (mh_TT ci j).1 = M.1.cls)) (hi : mh_isr ci j = true) (ht : (∃ C, mh_ty ci j = .object C) ∨ ∃ t, mh_ty ci j = .array t) (k : ∀ v, f v = some z → mh_go P d M (pc + 3) lv rest v r h') : mh_go P d M pc lv (.ref b :: .ref a :: rest) h r h' := by
  obtain ⟨v, e, hq⟩ := mh_ob hq
  obtain ⟨⟨h1, h2⟩, e⟩ := mh_oi e
  cases e
  exact st_putr hd hf h2 h1 hfin hi ht (k _ hq)
theorem bd_putw {index a j : Nat} {x : Int32} {f : mh_H → Option α} (hq : (pW h a j x).bind f = some z) (hd : decode M.2.1 pc = .ok (.putfield index, 3)) (hf : mh_flw M.1.cls index j) (hj : j < 4) (hin : M.1.name = "<init>") (hcl : M.1.cls = RX9) (k : ∀ v, f v = some z → mh_go P d M (pc + 3) lv rest v r h') : mh_go P d M pc lv (.int x :: .ref a :: rest) h r h' := by
  obtain ⟨v, e, hq⟩ := mh_ob hq
  obtain ⟨⟨h1, h2⟩, e⟩ := mh_oi e
  cases e
  have h4 : j = 0 ∨ j = 1 ∨ j = 2 ∨ j = 3 := by omega
  obtain ⟨f0, f2, f3, f4, f7, f9⟩ := hf
  obtain ⟨ci, hk, hc, hf, hi, ht⟩ := mh_w6 (Pr := fun ci => mh_fl M.1.cls index ci j ∧ (mh_TT ci j).1 = M.1.cls ∧ mh_ty ci j = .int) ⟨f0, by rw [hcl]; rcases h4 with rfl | rfl | rfl | rfl <;> rfl, by rcases h4 with rfl | rfl | rfl | rfl <;> rfl⟩ ⟨f2, by rw [hcl]; rcases h4 with rfl | rfl | rfl | rfl <;> rfl, by rcases h4 with rfl | rfl | rfl | rfl <;> rfl⟩ ⟨f3, by rw [hcl]; rcases h4 with rfl | rfl | rfl | rfl <;> rfl, by rcases h4 with rfl | rfl | rfl | rfl <;> rfl⟩ ⟨f4, by rw [hcl]; rcases h4 with rfl | rfl | rfl | rfl <;> rfl, by rcases h4 with rfl | rfl | rfl | rfl <;> rfl⟩ ⟨f7, by rw [hcl]; rcases h4 with rfl | rfl | rfl | rfl <;> rfl, by rcases h4 with rfl | rfl | rfl | rfl <;> rfl⟩ ⟨f9, by rw [hcl]; rcases h4 with rfl | rfl | rfl | rfl <;> rfl, by rcases h4 with rfl | rfl | rfl | rfl <;> rfl⟩ _ h2
  exact st_puti hd hf hk h1 (Or.inr ⟨hin, hi⟩) (Or.inl ht) (k _ hq)
theorem bd_iald {a : Nat} {i : Int32} {f : Int32 → Option α} (hq : (aI h a i).bind f = some z) (hd : decode M.2.1 pc = .ok (.iaload, 1)) (k : ∀ v, f v = some z → mh_go P d M (pc + 1) lv (.int v :: rest) h r h') : mh_go P d M pc lv (.int i :: .ref a :: rest) h r h' := by
  obtain ⟨v, e, hq⟩ := mh_ob hq
  obtain ⟨⟨⟨h1, h2⟩, h3⟩, e⟩ := mh_oi e
  cases e
  exact st_iald hd h2 h1 h3 (k _ hq)
theorem bd_iast {a : Nat} {i x : Int32} {f : mh_H → Option α} (hq : (uI h a i x).bind f = some z) (hd : decode M.2.1 pc = .ok (.iastore, 1)) (k : ∀ v, f v = some z → mh_go P d M (pc + 1) lv rest v r h') : mh_go P d M pc lv (.int x :: .int i :: .ref a :: rest) h r h' := by
  obtain ⟨v, e, hq⟩ := mh_ob hq
  obtain ⟨⟨⟨h1, h2⟩, h3⟩, e⟩ := mh_oi e
  cases e
  exact st_iast hd h2 h1 h3 (k _ hq)
theorem bd_aald {a : Nat} {i : Int32} {f : Nat → Option α} (hq : (aR h a i).bind f = some z) (hd : decode M.2.1 pc = .ok (.aaload, 1)) (k : ∀ v, f v = some z → mh_go P d M (pc + 1) lv (.ref v :: rest) h r h') : mh_go P d M pc lv (.int i :: .ref a :: rest) h r h' := by
  obtain ⟨v, e, hq⟩ := mh_ob hq
  obtain ⟨⟨⟨h1, h2⟩, h3⟩, e⟩ := mh_oi e
  exact st_aald hd h2 h1 h3 e (k _ hq)
theorem bd_aast {a b : Nat} {i : Int32} {f : mh_H → Option α} (hq : (uR h a i b).bind f = some z) (hd : decode M.2.1 pc = .ok (.aastore, 1)) (k : ∀ v, f v = some z → mh_go P d M (pc + 1) lv rest v r h') : mh_go P d M pc lv (.ref b :: .int i :: .ref a :: rest) h r h' := by
  obtain ⟨v, e, hq⟩ := mh_ob hq
  obtain ⟨⟨⟨⟨h1, h2⟩, h3⟩, h4, h5⟩, e⟩ := mh_oi e
  cases e
  exact st_aast hd h2 h1 h3 h5 h4 (k _ hq)
theorem bd_alen {a : Nat} {f : Int32 → Option α} (hq : (aL h a).bind f = some z) (hd : decode M.2.1 pc = .ok (.arraylength, 1)) (k : ∀ v, f v = some z → mh_go P d M (pc + 1) lv (.int v :: rest) h r h') : mh_go P d M pc lv (.ref a :: rest) h r h' := by
  obtain ⟨v, e, hq⟩ := mh_ob hq
  obtain ⟨⟨h1, h2⟩, e⟩ := mh_oi e
  cases e
  exact st_alen hd h2 h1 (k _ hq)
theorem bd_new {index ci : Nat} {f : mh_H → Option α} (hq : (nO h ci).bind f = some z) (hd : decode M.2.1 pc = .ok (.new index, 3)) (hci : ci < 13) (hcl : Cond.classLink M.1.cls index (mh_R ci) ∈ mh_T) (hin : Cond.instantiable (mh_R ci) (mh_N ci) ∈ mh_T) (hini : Cond.initialized (mh_R ci) ∈ mh_T) (k : ∀ v, f v = some z → mh_go P d M (pc + 3) lv (.ref (mh_n h) :: rest) v r h') : mh_go P d M pc lv rest h r h' := by
  obtain ⟨v, e, hq⟩ := mh_ob hq
  obtain ⟨h1, e⟩ := mh_oi e
  cases e
  exact st_new hd hci hcl hin hini h1 (k _ hq)
theorem bd_newa {n : Int32} {f : mh_H → Option α} (hq : (nA h 0 n).bind f = some z) (hd : decode M.2.1 pc = .ok (.newarray .int, 2)) (k : ∀ v, f v = some z → mh_go P d M (pc + 2) lv (.ref (mh_n h) :: rest) v r h') : mh_go P d M pc lv (.int n :: rest) h r h' := by
  obtain ⟨v, e, hq⟩ := mh_ob hq
  obtain ⟨⟨h1, h2, h3⟩, e⟩ := mh_oi e
  cases e
  exact st_newa hd h2 rfl h1 h3 (k _ hq)
theorem bd_newq {index : Nat} {n : Int32} {f : mh_H → Option α} (hq : (nA h 1 n).bind f = some z) (hd : decode M.2.1 pc = .ok (.anewarray index, 3)) (hcl : Cond.classLink M.1.cls index RX9 ∈ mh_T) (k : ∀ v, f v = some z → mh_go P d M (pc + 3) lv (.ref (mh_n h) :: rest) v r h') : mh_go P d M pc lv (.int n :: rest) h r h' := by
  obtain ⟨v, e, hq⟩ := mh_ob hq
  obtain ⟨⟨h1, h2, h3⟩, e⟩ := mh_oi e
  cases e
  exact st_newq hd hcl h2 rfl h1 h3 (k _ hq)
theorem bd_copy {index a b : Nat} {sp dp n : Int32} {f : mh_H → Option α} (hq : (cP h a b sp dp n).bind f = some z) (hd : decode M.2.1 pc = .ok (.invokestatic index, 3)) (hl : Cond.methodLink M.1.cls index arraycopyName ∈ mh_T) (hna : Cond.native arraycopyName ∈ mh_T) (hst : Cond.static arraycopyName ∈ mh_T) (hini : Cond.initialized "java/lang/System" ∈ mh_T) (hd1 : 1 ≤ d) (hW : (rest.map fun v => v.category).sum ≤ 8) (k : ∀ v, f v = some z → mh_go P d M (pc + 3) lv rest v r h') : mh_go P d M pc lv (.int n :: .int dp :: .ref b :: .int sp :: .ref a :: rest) h r h' := by
  obtain ⟨v, e, hq⟩ := mh_ob hq
  obtain ⟨⟨⟨a1, a2⟩, ⟨b1, b2⟩, ⟨c1, c2, c3⟩, d1, d2⟩, e⟩ := mh_oi e
  cases e
  exact st_copy hd hl hna hst hini a2 b2 a1 b1 c1 c2 c3 d1 d2 hd1 hW (k _ hq)
theorem bd_idiv {x y : Int32} {f : Option α} (hq : dN y f = some z) (hd : decode M.2.1 pc = .ok (.idiv, 1)) (k : f = some z → mh_go P d M (pc + 1) lv (.int (x / y) :: rest) h r h') : mh_go P d M pc lv (.int y :: .int x :: rest) h r h' := by
  unfold dN at hq
  by_cases hy : y = 0
  · rw [if_pos hy] at hq; cases hq
  · rw [if_neg hy] at hq
    exact st_idiv hd hy (k hq)
theorem bd_irem {x y : Int32} {f : Option α} (hq : dN y f = some z) (hd : decode M.2.1 pc = .ok (.irem, 1)) (k : f = some z → mh_go P d M (pc + 1) lv (.int (x - x / y * y) :: rest) h r h') : mh_go P d M pc lv (.int y :: .int x :: rest) h r h' := by
  unfold dN at hq
  by_cases hy : y = 0
  · rw [if_pos hy] at hq; cases hq
  · rw [if_neg hy] at hq
    exact st_irem hd hy (k hq)
theorem bd_ldiv {x y : Int64} {f : Option α} (hq : dL y f = some z) (hd : decode M.2.1 pc = .ok (.ldiv, 1)) (k : f = some z → mh_go P d M (pc + 1) lv (.long (x / y) :: rest) h r h') : mh_go P d M pc lv (.long y :: .long x :: rest) h r h' := by
  unfold dL at hq
  by_cases hy : y = 0
  · rw [if_pos hy] at hq; cases hq
  · rw [if_neg hy] at hq
    exact st_ldiv hd hy (k hq)
theorem bd_if_eq {x : Int32} {off : Int} {tgt : Nat} {A B : Option α} (hq : (if x = 0 then A else B) = some z) (hd : decode M.2.1 pc = .ok (.ifCond .eq off, 3)) (ht : (pc : Int) + off = (tgt : Int)) (kt : x = 0 → A = some z → mh_go P d M tgt lv rest h r h') (kf : ¬ x = 0 → B = some z → mh_go P d M (pc + 3) lv rest h r h') : mh_go P d M pc lv (.int x :: rest) h r h' := by
  by_cases hc : x = 0
  · rw [if_pos hc] at hq; exact st_if_eq_t hd ht hc (kt hc hq)
  · rw [if_neg hc] at hq; exact st_if_eq_f hd ⟨_, ht⟩ hc (kf hc hq)
theorem bd_if_ne {x : Int32} {off : Int} {tgt : Nat} {A B : Option α} (hq : (if x = 0 then A else B) = some z) (hd : decode M.2.1 pc = .ok (.ifCond .ne off, 3)) (ht : (pc : Int) + off = (tgt : Int)) (kf : x = 0 → A = some z → mh_go P d M (pc + 3) lv rest h r h') (kt : ¬ x = 0 → B = some z → mh_go P d M tgt lv rest h r h') : mh_go P d M pc lv (.int x :: rest) h r h' := by
  by_cases hc : x = 0
  · rw [if_pos hc] at hq; exact st_if_ne_f hd ⟨_, ht⟩ hc (kf hc hq)
  · rw [if_neg hc] at hq; exact st_if_ne_t hd ht hc (kt hc hq)
theorem bd_icmp_eq {x y : Int32} {off : Int} {tgt : Nat} {A B : Option α} (hq : (if x = y then A else B) = some z) (hd : decode M.2.1 pc = .ok (.if_icmp .eq off, 3)) (ht : (pc : Int) + off = (tgt : Int)) (kt : x = y → A = some z → mh_go P d M tgt lv rest h r h') (kf : ¬ x = y → B = some z → mh_go P d M (pc + 3) lv rest h r h') : mh_go P d M pc lv (.int y :: .int x :: rest) h r h' := by
  by_cases hc : x = y
  · rw [if_pos hc] at hq; exact st_icmp_eq_t hd ht hc (kt hc hq)
  · rw [if_neg hc] at hq; exact st_icmp_eq_f hd ⟨_, ht⟩ hc (kf hc hq)
theorem bd_icmp_ne {x y : Int32} {off : Int} {tgt : Nat} {A B : Option α} (hq : (if x = y then A else B) = some z) (hd : decode M.2.1 pc = .ok (.if_icmp .ne off, 3)) (ht : (pc : Int) + off = (tgt : Int)) (kf : x = y → A = some z → mh_go P d M (pc + 3) lv rest h r h') (kt : ¬ x = y → B = some z → mh_go P d M tgt lv rest h r h') : mh_go P d M pc lv (.int y :: .int x :: rest) h r h' := by
  by_cases hc : x = y
  · rw [if_pos hc] at hq; exact st_icmp_ne_f hd ⟨_, ht⟩ hc (kf hc hq)
  · rw [if_neg hc] at hq; exact st_icmp_ne_t hd ht hc (kt hc hq)
theorem bd_if_lt {x : Int32} {off : Int} {tgt : Nat} {A B : Option α} (hq : (if x < 0 then A else B) = some z) (hd : decode M.2.1 pc = .ok (.ifCond .lt off, 3)) (ht : (pc : Int) + off = (tgt : Int)) (kt : x < 0 → A = some z → mh_go P d M tgt lv rest h r h') (kf : ¬ x < 0 → B = some z → mh_go P d M (pc + 3) lv rest h r h') : mh_go P d M pc lv (.int x :: rest) h r h' := by
  by_cases hc : x < 0
  · rw [if_pos hc] at hq; exact st_if_lt_t hd ht hc (kt hc hq)
  · rw [if_neg hc] at hq; exact st_if_lt_f hd ⟨_, ht⟩ hc (kf hc hq)
theorem bd_icmp_lt {x y : Int32} {off : Int} {tgt : Nat} {A B : Option α} (hq : (if x < y then A else B) = some z) (hd : decode M.2.1 pc = .ok (.if_icmp .lt off, 3)) (ht : (pc : Int) + off = (tgt : Int)) (kt : x < y → A = some z → mh_go P d M tgt lv rest h r h') (kf : ¬ x < y → B = some z → mh_go P d M (pc + 3) lv rest h r h') : mh_go P d M pc lv (.int y :: .int x :: rest) h r h' := by
  by_cases hc : x < y
  · rw [if_pos hc] at hq; exact st_icmp_lt_t hd ht hc (kt hc hq)
  · rw [if_neg hc] at hq; exact st_icmp_lt_f hd ⟨_, ht⟩ hc (kf hc hq)
theorem bd_if_ge {x : Int32} {off : Int} {tgt : Nat} {A B : Option α} (hq : (if 0 ≤ x then A else B) = some z) (hd : decode M.2.1 pc = .ok (.ifCond .ge off, 3)) (ht : (pc : Int) + off = (tgt : Int)) (kt : 0 ≤ x → A = some z → mh_go P d M tgt lv rest h r h') (kf : ¬ 0 ≤ x → B = some z → mh_go P d M (pc + 3) lv rest h r h') : mh_go P d M pc lv (.int x :: rest) h r h' := by
  by_cases hc : 0 ≤ x
  · rw [if_pos hc] at hq; exact st_if_ge_t hd ht hc (kt hc hq)
  · rw [if_neg hc] at hq; exact st_if_ge_f hd ⟨_, ht⟩ hc (kf hc hq)
theorem bd_icmp_ge {x y : Int32} {off : Int} {tgt : Nat} {A B : Option α} (hq : (if y ≤ x then A else B) = some z) (hd : decode M.2.1 pc = .ok (.if_icmp .ge off, 3)) (ht : (pc : Int) + off = (tgt : Int)) (kt : y ≤ x → A = some z → mh_go P d M tgt lv rest h r h') (kf : ¬ y ≤ x → B = some z → mh_go P d M (pc + 3) lv rest h r h') : mh_go P d M pc lv (.int y :: .int x :: rest) h r h' := by
  by_cases hc : y ≤ x
  · rw [if_pos hc] at hq; exact st_icmp_ge_t hd ht hc (kt hc hq)
  · rw [if_neg hc] at hq; exact st_icmp_ge_f hd ⟨_, ht⟩ hc (kf hc hq)
theorem bd_if_gt {x : Int32} {off : Int} {tgt : Nat} {A B : Option α} (hq : (if 0 < x then A else B) = some z) (hd : decode M.2.1 pc = .ok (.ifCond .gt off, 3)) (ht : (pc : Int) + off = (tgt : Int)) (kt : 0 < x → A = some z → mh_go P d M tgt lv rest h r h') (kf : ¬ 0 < x → B = some z → mh_go P d M (pc + 3) lv rest h r h') : mh_go P d M pc lv (.int x :: rest) h r h' := by
  by_cases hc : 0 < x
  · rw [if_pos hc] at hq; exact st_if_gt_t hd ht hc (kt hc hq)
  · rw [if_neg hc] at hq; exact st_if_gt_f hd ⟨_, ht⟩ hc (kf hc hq)
theorem bd_icmp_gt {x y : Int32} {off : Int} {tgt : Nat} {A B : Option α} (hq : (if y < x then A else B) = some z) (hd : decode M.2.1 pc = .ok (.if_icmp .gt off, 3)) (ht : (pc : Int) + off = (tgt : Int)) (kt : y < x → A = some z → mh_go P d M tgt lv rest h r h') (kf : ¬ y < x → B = some z → mh_go P d M (pc + 3) lv rest h r h') : mh_go P d M pc lv (.int y :: .int x :: rest) h r h' := by
  by_cases hc : y < x
  · rw [if_pos hc] at hq; exact st_icmp_gt_t hd ht hc (kt hc hq)
  · rw [if_neg hc] at hq; exact st_icmp_gt_f hd ⟨_, ht⟩ hc (kf hc hq)
theorem bd_if_le {x : Int32} {off : Int} {tgt : Nat} {A B : Option α} (hq : (if x ≤ 0 then A else B) = some z) (hd : decode M.2.1 pc = .ok (.ifCond .le off, 3)) (ht : (pc : Int) + off = (tgt : Int)) (kt : x ≤ 0 → A = some z → mh_go P d M tgt lv rest h r h') (kf : ¬ x ≤ 0 → B = some z → mh_go P d M (pc + 3) lv rest h r h') : mh_go P d M pc lv (.int x :: rest) h r h' := by
  by_cases hc : x ≤ 0
  · rw [if_pos hc] at hq; exact st_if_le_t hd ht hc (kt hc hq)
  · rw [if_neg hc] at hq; exact st_if_le_f hd ⟨_, ht⟩ hc (kf hc hq)
theorem bd_icmp_le {x y : Int32} {off : Int} {tgt : Nat} {A B : Option α} (hq : (if x ≤ y then A else B) = some z) (hd : decode M.2.1 pc = .ok (.if_icmp .le off, 3)) (ht : (pc : Int) + off = (tgt : Int)) (kt : x ≤ y → A = some z → mh_go P d M tgt lv rest h r h') (kf : ¬ x ≤ y → B = some z → mh_go P d M (pc + 3) lv rest h r h') : mh_go P d M pc lv (.int y :: .int x :: rest) h r h' := by
  by_cases hc : x ≤ y
  · rw [if_pos hc] at hq; exact st_icmp_le_t hd ht hc (kt hc hq)
  · rw [if_neg hc] at hq; exact st_icmp_le_f hd ⟨_, ht⟩ hc (kf hc hq)
theorem bd_iret {x : Int32} {z : Int32 × mh_H} (hq : some (x, h) = some z) (hd : decode M.2.1 pc = .ok (.ireturn, 1)) (hr : M.2.2.2 = some .int) : mh_go P d M pc lv [.int x] h (some (.int z.1)) z.2 := by
  cases hq
  exact st_ireturn hd hr
theorem bd_zret {x : Int32} {z : Int32 × mh_H} (hq : zB x h = some z) (hd : decode M.2.1 pc = .ok (.ireturn, 1)) (hr : M.2.2.2 = some .boolean) : mh_go P d M pc lv [.int x] h (some (.int z.1)) z.2 := by
  obtain ⟨hx, e⟩ := mh_oi hq
  cases e
  exact st_zreturn hd hr (by rcases hx with rfl | rfl <;> decide)
theorem bd_vret {z : mh_H} (hq : some h = some z) (hd : decode M.2.1 pc = .ok (.return_, 1)) (hr : M.2.2.2 = none) : mh_go P d M pc lv [] h none z := by
  cases hq
  exact st_return hd hr
theorem bd_aret {x : Nat} {C : String} {z : Nat × mh_H} (hq : some (x, h) = some z) (hd : decode M.2.1 pc = .ok (.areturn, 1)) (hr : M.2.2.2 = some (.object C)) : mh_go P d M pc lv [.ref x] h (some (.ref z.1)) z.2 := by
  cases hq
  exact st_areturn hd hr
theorem bd_inst {index a cj : Nat} {f : Int32 → Option α} (hq : (iK h a cj).bind f = some z) (hd : decode M.2.1 pc = .ok (.instanceof index, 3)) (hl : Cond.classLink M.1.cls index (mh_R cj) ∈ mh_T) (hY : ∀ ci, mh_isW (ci + 2) = true → mh_under ci cj = true → ci = cj ∨ Cond.castable (mh_R ci) (mh_R cj) ∈ mh_nest) (hN : ∀ ci, mh_isW (ci + 2) = true → mh_under ci cj = false → (mh_R ci, mh_R cj) ∈ mh_noc) (k : ∀ v, f v = some z → mh_go P d M (pc + 3) lv (.int v :: rest) h r h') : mh_go P d M pc lv (.ref a :: rest) h r h' := by
  obtain ⟨v, e, hq⟩ := mh_ob hq
  obtain ⟨⟨h1, h2⟩, e⟩ := mh_oi e
  cases e
  obtain ⟨ci, hk, hc, -⟩ := mh_w6 (Pr := fun _ => True) trivial trivial trivial trivial trivial trivial _ h2
  have e2 : mh_k h a - 2 = ci := by omega
  rw [hk] at h2
  by_cases hu : mh_under ci cj = true
  · refine st_instY hd hc hk h1 hl (hY ci h2 hu) ?_
    have := k _ hq
    rw [e2, if_pos hu] at this
    exact this
  · refine st_instN hd hc hk h1 hl (hN ci h2 (by simpa using hu)) ?_
    have := k _ hq
    rw [e2, if_neg hu] at this
    exact this
theorem bd_cast {index a ci : Nat} {f : Option α} (hq : kO h ci a f = some z) (hd : decode M.2.1 pc = .ok (.checkcast index, 3)) (hci : ci < 13) (hl : Cond.classLink M.1.cls index (mh_R ci) ∈ mh_T) (k : f = some z → mh_go P d M (pc + 3) lv (.ref a :: rest) h r h') : mh_go P d M pc lv (.ref a :: rest) h r h' := by
  obtain ⟨⟨h1, h2⟩, e⟩ := mh_oi hq
  exact st_castE hd hci h2 h1 hl (k e)
theorem bd_let {β : Type} {x : β} {f : β → Option α} {G : β → Prop} (hq : mh_let x f = some z) (k : ∀ v, f v = some z → G v) : G x := k x hq
end MHB
