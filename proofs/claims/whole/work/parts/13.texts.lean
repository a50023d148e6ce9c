/-! the two texts: a text's place is 1000000001 or 1000000002, its bytes' two more -/
def sV (b : Nat) : Option Nat := if b = 1000000001 ∨ b = 1000000002 then some (b + 2) else none
def sC (b : Nat) : Option Int32 := if b = 1000000001 ∨ b = 1000000002 then some 0 else none
def kS {α : Type} (b : Nat) (f : Option α) : Option α := if b = 1000000001 ∨ b = 1000000002 then f else none
def tX (a : Nat) : List Int32 := if a = 1000000003 then [104, 100, 107, 102] else [119, 99, 115]
def tB (a : Nat) (i : Int32) : Option Int32 := if (a = 1000000003 ∨ a = 1000000004) ∧ ¬ (i < 0 ∨ (tX a).length ≤ i.toNatClampNeg) then some ((tX a).getD i.toNatClampNeg 0) else none
def tL (a : Nat) : Option Int32 := if a = 1000000003 ∨ a = 1000000004 then some (Int32.ofNat (tX a).length) else none
theorem mh_adT {E : mh_E} {i : Nat} : mh_ad E (1000000000 + i) = mh_pre E i := by
  unfold mh_ad
  rw [if_neg (by omega), show 1000000000 + i - 1000000000 = i by omega]
section MHT
variable {P : mh_E → Prop} {d : Nat} {M : mh_M} {pc : Nat} {lv : List (Option Value)} {rest : List Value} {h : mh_H} {r : Option Value} {h' : mh_H} {α : Type} {z : α}
theorem mh_txi {b : Nat} (hb : b = 1000000001 ∨ b = 1000000002) : ∃ i, i < 2 ∧ b = 1000000000 + (1 + i) := by
  rcases hb with rfl | rfl
  · exact ⟨0, by decide, rfl⟩
  · exact ⟨1, by decide, rfl⟩
theorem mh_tai {b : Nat} (hb : b = 1000000003 ∨ b = 1000000004) : ∃ i, i < 2 ∧ b = 1000000000 + (3 + i) ∧ mh_len.getD i 0 = (tX b).length ∧ mh_byt.getD i [] = tX b := by
  rcases hb with rfl | rfl
  · exact ⟨0, by decide, rfl, rfl, rfl⟩
  · exact ⟨1, by decide, rfl, rfl, rfl⟩
theorem st_cs {index : Nat} (hd : decode M.2.1 pc = .ok (.getstatic index, 3)) (hl : Cond.fieldLink M.1.cls index "java/lang/String" "COMPACT_STRINGS" "Z" ∈ mh_T) (k : mh_go P d M (pc + 3) lv (.int 1 :: rest) h r h') : mh_go P d M pc lv rest h r h' :=
  mh_chg (h2 := h) rfl rfl k (fun p l e R s m args below meth c H locs cells slots ls E Q hPE hX hv hP hS _ _ w => va_gets hX.1 hX.2.1 hX.2.2.2.2.2.2.2.2.2.1.2.1 hS hX.2.2.2.2.2.1 (hX.2.2.2.2.2.2.2.1 _ hl) (fun _ q => q) hd (w H locs hP hS))
theorem bd_sV {index b : Nat} {f : Nat → Option α} (hq : (sV b).bind f = some z) (hd : decode M.2.1 pc = .ok (.getfield index, 3)) (hl : Cond.fieldLink M.1.cls index "java/lang/String" "value" "[B" ∈ mh_T) (k : ∀ v, f v = some z → mh_go P d M (pc + 3) lv (.ref v :: rest) h r h') : mh_go P d M pc lv (.ref b :: rest) h r h' := by
  obtain ⟨v, e, hq⟩ := mh_ob hq
  obtain ⟨hb, e⟩ := mh_oi e
  cases e
  obtain ⟨i, hi, rfl⟩ := mh_txi hb
  refine mh_chg (h2 := h) rfl rfl (k _ hq) (fun p l e R s m args below meth c H locs cells slots ls E Q hPE hX hv hP hS _ _ w => ?_)
  have hE := (hX.2.2.2.2.2.2.2.2.2.1.1.1 i hi).2.2.1
  have w1 := w H locs hP hS
  simp only [List.map_cons, mh_c, show 1000000000 + (1 + i) + 2 = 1000000000 + (3 + i) by omega, mh_adT] at w1 ⊢
  exact vk_getf hX.1 hX.2.1 hE hS hX.2.2.2.2.2.1 (hX.2.2.2.2.2.2.2.1 _ hl) (fun _ q => q) hd w1
theorem bd_sC {index b : Nat} {f : Int32 → Option α} (hq : (sC b).bind f = some z) (hd : decode M.2.1 pc = .ok (.getfield index, 3)) (hl : Cond.fieldLink M.1.cls index "java/lang/String" "coder" "B" ∈ mh_T) (k : ∀ v, f v = some z → mh_go P d M (pc + 3) lv (.int v :: rest) h r h') : mh_go P d M pc lv (.ref b :: rest) h r h' := by
  obtain ⟨v, e, hq2⟩ := mh_ob hq
  clear hq
  obtain ⟨hb, e⟩ := mh_oi e
  cases e
  obtain ⟨i, hi, rfl⟩ := mh_txi hb
  refine mh_chg (h2 := h) rfl rfl (k _ hq2) (fun p l e R s m args below meth c H locs cells slots ls E Q hPE hX hv hP hS _ _ w => ?_)
  have hE := (hX.2.2.2.2.2.2.2.2.2.1.1.1 i hi).2.1
  have w1 := w H locs hP hS
  simp only [List.map_cons, mh_c, mh_adT] at w1 ⊢
  exact vk_getf hX.1 hX.2.1 hE hS hX.2.2.2.2.2.1 (hX.2.2.2.2.2.2.2.1 _ hl) (fun _ q => q) hd w1
theorem bd_tb {a : Nat} {i : Int32} {f : Int32 → Option α} (hq : (tB a i).bind f = some z) (hd : decode M.2.1 pc = .ok (.baload, 1)) (k : ∀ v, f v = some z → mh_go P d M (pc + 1) lv (.int v :: rest) h r h') : mh_go P d M pc lv (.int i :: .ref a :: rest) h r h' := by
  obtain ⟨v, e, hq⟩ := mh_ob hq
  obtain ⟨⟨ha, hin⟩, e⟩ := mh_oi e
  cases e
  obtain ⟨j, hj, rfl, hlen, hby⟩ := mh_tai ha
  refine mh_chg (h2 := h) rfl rfl (k _ hq) (fun p l e R s m args below meth c H locs cells slots ls E Q hPE hX hv hP hS _ _ w => ?_)
  have hT := (hX.2.2.2.2.2.2.2.2.2.1.1.1 j hj).2.2.2
  rw [hlen, hby] at hT
  have w1 := w H locs hP hS
  simp only [List.map_cons, mh_c, mh_adT] at w1 ⊢
  exact va_tb hX.1 hX.2.1 hT hS hin rfl hd w1
theorem bd_tl {a : Nat} {f : Int32 → Option α} (hq : (tL a).bind f = some z) (hd : decode M.2.1 pc = .ok (.arraylength, 1)) (k : ∀ v, f v = some z → mh_go P d M (pc + 1) lv (.int v :: rest) h r h') : mh_go P d M pc lv (.ref a :: rest) h r h' := by
  obtain ⟨v, e, hq⟩ := mh_ob hq
  obtain ⟨ha, e⟩ := mh_oi e
  cases e
  obtain ⟨j, hj, rfl, hlen, hby⟩ := mh_tai ha
  refine mh_chg (h2 := h) rfl rfl (k _ hq) (fun p l e R s m args below meth c H locs cells slots ls E Q hPE hX hv hP hS _ _ w => ?_)
  have hT := (hX.2.2.2.2.2.2.2.2.2.1.1.1 j hj).2.2.2
  rw [hlen, hby] at hT
  have w1 := w H locs hP hS
  simp only [List.map_cons, mh_c, mh_adT] at w1 ⊢
  exact va_tlen hX.1 hX.2.1 hT hS rfl hd w1
theorem bd_bret {x : Int32} {z : Int32 × mh_H} (hq : zB x h = some z) (hd : decode M.2.1 pc = .ok (.ireturn, 1)) (hr : M.2.2.2 = some .byte) : mh_go P d M pc lv [.int x] h (some (.int z.1)) z.2 := by
  obtain ⟨hx, e⟩ := mh_oi hq
  cases e
  exact st_zreturn hd hr (by rcases hx with rfl | rfl <;> decide)
theorem st_invT {d2 index n b : Nat} {Y : mh_M} {vs st : List Value} {r1 : Option Value} {h1 : mh_H} {lv0 : List (Option Value)} (hd : decode M.2.1 pc = .ok (.invokevirtual index, 3)) (hok : mh_mok Y) (hb : b = 1000000001 ∨ b = 1000000002) (hl : Cond.methodLink M.1.cls index Y.1 ∈ mh_T) (hi : Cond.instanceMethod Y.1 ∈ mh_T) (hse : Cond.selects "java/lang/String" Y.1 Y.1 ∈ mh_T) (hp : (parseMethodDescriptor Y.1.desc).map (fun d => d.parameters.length) = some n) (hn : vs.length = n) (hst : st = (.ref b :: vs).reverse ++ rest) (hlv : mh_pad Y.2.2.1 (mh_args (.ref b :: vs)) = lv0) (hlen : lv0.length = Y.2.2.1) (hd2 : d2 + 1 ≤ d) (hW : (rest.map fun v => v.category).sum ≤ 8) (g : mh_go P d2 Y 0 lv0 [] h r1 h1) {st2 : List Value} (hs2 : r1.toList ++ rest = st2) (k : mh_go P d M (pc + 3) lv st2 h1 r h') : mh_go P d M pc lv st h r h' :=
  mh_call hst hlv hlen hok hd2 hW g hs2 k (fun p l e R s m args below meth c H locs cells slots ls E hX hP hSS hM hR hf hpre hsz hW => by
    obtain ⟨i, hi2, rfl⟩ := mh_txi hb
    have hrec := vk_recv hX.2.2.2.2.2.2.2.2.2.1.1 hi2 hSS
    exact va_runV (C := "java/lang/String") (b := mh_ad E (1000000000 + (1 + i))) (As := vs.map (mh_c E)) (mh_fix hX) hM ⟨callB_of n hX.2.2.2.2.2.2.2.1 (mh_good (Y := Y) hok.1) rfl rfl rfl (hX.2.2.2.2.2.2.2.1 _ hok.2.1) (hX.2.2.2.2.2.2.2.1 _ hl) ⟨hok.2.2.2.1.1, hok.2.2.2.1.2, hp⟩ hR, hX.2.2.2.2.2.2.2.1 _ hi, hX.2.2.2.2.2.2.2.1 _ hse⟩ ⟨mh_blind, by rw [mh_adT]; exact hrec, hpre⟩ rfl (by rw [List.length_map]; exact hn) hsz (by rw [show (F0 m pc ls (st.map (mh_c E))).stack = _ from mh_rev hst]; simp [mh_c]) hW hd hf)
end MHT
