/-! small methods of both, as functions -/
def ib (c : Prop) (dc : Decidable c) : Int32 := @ite _ c dc 1 0
theorem if_ib {α : Type} {c : Prop} {dc : Decidable c} {A B : α} : (if ib c dc = 0 then A else B) = (@ite _ c dc B A) := by
  unfold ib
  by_cases h : c
  · rw [if_pos h, if_pos h]; rfl
  · rw [if_neg h, if_neg h]; rfl
theorem l_within (N : Nat) (h : mh_H) (v a b : Int32) : D_X11_within N h v a b = some (ib (a ≤ v ∧ v ≤ b) inferInstance, h) := by
  unfold D_X11_within ib
  by_cases h1 : a ≤ v
  · by_cases h2 : v ≤ b
    · have e1 : ¬ v < a := Int32.not_lt.mpr h1
      have e2 : ¬ b < v := Int32.not_lt.mpr h2
      simp [e1, e2, h1, h2, zB]
    · have e1 : ¬ v < a := Int32.not_lt.mpr h1
      have e2 : b < v := Int32.not_le.mp h2
      simp [e1, e2, h1, h2, zB]
  · have e1 : v < a := Int32.not_le.mp h1
    simp [e1, h1, zB]
theorem l_in (N : Nat) (h : mh_H) (v a b : Int64) : D_X12_in N h v a b = some (ib (a ≤ v ∧ v ≤ b) inferInstance, h) := by
  unfold D_X12_in ib
  by_cases h1 : a ≤ v
  · have e1 : ¬ lg_cmp v a < 0 := Int32.not_lt.mpr ((lg_cmp_ge v a).mpr h1)
    by_cases h2 : v ≤ b
    · have e2 : ¬ 0 < lg_cmp v b := Int32.not_lt.mpr ((lg_cmp_le v b).mpr h2)
      simp [e1, e2, h1, h2, zB]
    · have e2 : 0 < lg_cmp v b := Int32.not_le.mp (fun q => h2 ((lg_cmp_le v b).mp q))
      simp [e1, e2, h1, h2, zB]
  · have e1 : lg_cmp v a < 0 := Int32.not_le.mp (fun q => h1 ((lg_cmp_ge v a).mp q))
    simp [e1, h1, zB]
theorem some_bind {α β : Type} (a : α) (f : α → Option β) : (some a).bind f = f a := rfl
theorem l_bit (N : Nat) (h : mh_H) (x i : Int32) : D_X11_bit N h x i = some ((x >>> (i &&& 31)) &&& 1, h) := rfl
theorem zB_ib {c : Prop} {dc : Decidable c} {h : mh_H} : zB (ib c dc) h = some (ib c dc, h) := by
  unfold ib zB
  by_cases hc : c
  · rw [if_pos hc]; rfl
  · rw [if_neg hc]; rfl
theorem l_isColour (N : Nat) (h : mh_H) (c : Int32) : D_X11_isColour N h c = some (ib (0 ≤ c ∧ c ≤ 3) inferInstance, h) := by
  unfold D_X11_isColour
  rw [l_within, some_bind]
  exact zB_ib
theorem l_isSheet (N : Nat) (h : mh_H) (c : Int32) : D_X11_isSheet N h c = some (ib (0 ≤ c ∧ c ≤ 3) inferInstance, h) := by
  unfold D_X11_isSheet
  rw [l_within, some_bind]
  exact zB_ib
theorem wd_le (a b : Int32) : a.toInt64 ≤ b.toInt64 ↔ a ≤ b := by rw [Int64.le_iff_toInt_le, Int32.le_iff_toInt_le, Int32.toInt_toInt64, Int32.toInt_toInt64]
theorem w0_le (x : Int32) : (0 : Int64) ≤ x.toInt64 ↔ 0 ≤ x := wd_le 0 x
theorem ib_iff {c d : Prop} {dc : Decidable c} {dd : Decidable d} (h : c ↔ d) : ib c dc = ib d dd := by
  unfold ib
  by_cases hc : c
  · rw [if_pos hc, if_pos (h.mp hc)]
  · rw [if_neg hc, if_neg (fun q => hc (h.mpr q))]
