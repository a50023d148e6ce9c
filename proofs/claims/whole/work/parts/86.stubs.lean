/-! acts that are not proved yet -/
section STUBS
variable {TX : Nat → Nat → (Nat → Nat) → Z1 → Prop}

end STUBS
