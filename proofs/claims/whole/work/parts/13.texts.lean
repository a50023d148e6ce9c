/-! names.indexOf(c) over the two texts -/
def xIx : List Int32 → Int32 → Int32 → Int32
  | [], _, _ => -1
  | b :: l, c, k => if b = c then k else xIx l c (k + 1)
def xOf (b : Nat) (c : Int32) : Option Int32 := if b = 1000000001 then some (xIx [104, 100, 107, 102] c 0) else if b = 1000000002 then some (xIx [119, 99, 115] c 0) else none
theorem bd_xof {P : mh_E → Prop} {d : Nat} {M : mh_M} {pc : Nat} {lv : List (Option Value)} {rest : List Value} {h : mh_H} {r : Option Value} {h' : mh_H} {α : Type} {z : α} {index b : Nat} {c : Int32} {f : Int32 → Option α} (hq : (xOf b c).bind f = some z) (hd : decode M.2.1 pc = .ok (.invokevirtual index, 3)) (hl : Cond.methodLink M.1.cls index ⟨"java/lang/String", "indexOf", "(I)I"⟩ ∈ mh_T) (hd1 : 8 ≤ d) (hW : (rest.map fun v => v.category).sum ≤ 8) (k : ∀ v, f v = some z → mh_go P d M (pc + 3) lv (.int v :: rest) h r h') : mh_go P d M pc lv (.int c :: .ref b :: rest) h r h' := by
  sorry
