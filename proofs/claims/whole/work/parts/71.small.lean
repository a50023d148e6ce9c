/-! small methods of both, as functions -/
def ib (c : Prop) (dc : Decidable c) : Int32 := @ite _ c dc 1 0
theorem if_ib {α : Type} {c : Prop} {dc : Decidable c} {A B : α} : (if ib c dc = 0 then A else B) = (@ite _ c dc B A) := by
  unfold ib
  by_cases h : c
  · rw [if_pos h, if_pos h]; rfl
  · rw [if_neg h, if_neg h]; rfl
theorem l_within (N : Nat) (h : mh_H) (v a b : Int32) : D_X11_within N h v a b = some (ib (a ≤ v ∧ v ≤ b) inferInstance, h) := by
  unfold D_X11_within ib
  by_cases h1 : a ≤ v
  · by_cases h2 : v ≤ b
    · have e1 : ¬ v < a := Int32.not_lt.mpr h1
      have e2 : ¬ b < v := Int32.not_lt.mpr h2
      simp [e1, e2, h1, h2, zB]
    · have e1 : ¬ v < a := Int32.not_lt.mpr h1
      have e2 : b < v := Int32.not_le.mp h2
      simp [e1, e2, h1, h2, zB]
  · have e1 : v < a := Int32.not_le.mp h1
    simp [e1, h1, zB]
theorem l_in (N : Nat) (h : mh_H) (v a b : Int64) : D_X12_in N h v a b = some (ib (a ≤ v ∧ v ≤ b) inferInstance, h) := by
  unfold D_X12_in ib
  by_cases h1 : a ≤ v
  · have e1 : ¬ lg_cmp v a < 0 := Int32.not_lt.mpr ((lg_cmp_ge v a).mpr h1)
    by_cases h2 : v ≤ b
    · have e2 : ¬ 0 < lg_cmp v b := Int32.not_lt.mpr ((lg_cmp_le v b).mpr h2)
      simp [e1, e2, h1, h2, zB]
    · have e2 : 0 < lg_cmp v b := Int32.not_le.mp (fun q => h2 ((lg_cmp_le v b).mp q))
      simp [e1, e2, h1, h2, zB]
  · have e1 : lg_cmp v a < 0 := Int32.not_le.mp (fun q => h1 ((lg_cmp_ge v a).mp q))
    simp [e1, h1, zB]
