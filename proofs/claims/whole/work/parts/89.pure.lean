/-- the empty heap -/
def mh_0 : mh_H := (0, 0, (fun _ => 0), (fun _ => 0), (fun _ _ => 0), (fun _ _ => none))
theorem pure_law (L : Nat) (xs : Nat → Int32) (hL : L ≤ 384) : ∃ (N : Nat) (h' : mh_H), D_L_law N L xs mh_0 = some (1, h') ∧ mh_n h' ≤ 600000 ∧ mh_z h' ≤ 7302250 := by
  sorry
