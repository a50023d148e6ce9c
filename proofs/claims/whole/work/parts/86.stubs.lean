/-! acts that are not proved yet -/
section STUBS
variable {TX : Nat → Nat → (Nat → Nat) → Z1 → Prop}
theorem Ok_hours (hTX : TXc TX) (a1 : Int32) : Ok TX (fun N h => D_X11_hours N h 0 a1) (fun N h => D_X12_hours N h 83 a1) := by
  sorry
theorem Ok_spill (hTX : TXc TX) (a1 : Int32) (a2 : Int32) (a3 : Int32) (a4 : Int32) : Ok TX (fun N h => D_X11_spill N h 0 a1 a2 a3 a4) (fun N h => D_X12_spill N h 83 a1 a2 a3 a4) := by
  sorry
theorem Ok_first (hTX : TXc TX) (a1 : Int32) (a2 : Int32) (a3 : Int32) : Ok TX (fun N h => D_X11_first N h 0 a1 a2 a3) (fun N h => D_X12_first N h 83 a1 a2 a3) := by
  sorry
theorem Ok_text (hTX : TXc TX) (a1 : Int32) : Ok TX (fun N h => D_X11_text N h 0 a1) (fun N h => D_X12_text N h 83 a1) := by
  sorry
theorem Ok_rain (hTX : TXc TX) (a1 : Int32) : Ok TX (fun N h => D_X11_rain N h 0 a1) (fun N h => D_X12_rain N h 83 a1) := by
  sorry
theorem Ok_seen (hTX : TXc TX) (a1 : Int32) (a2 : Int32) (a3 : Int32) : Ok TX (fun N h => D_X11_seen N h 0 a1 a2 a3) (fun N h => D_X12_seen N h 83 a1 a2 a3) := by
  sorry
theorem Ok_bottle (hTX : TXc TX) (a1 : Int32) (a2 : Int32) : Ok TX (fun N h => D_X11_bottle N h 0 a1 a2) (fun N h => D_X12_bottle N h 83 a1 a2) := by
  sorry
theorem Ok_bag (hTX : TXc TX) (a1 : Int32) (a2 : Int32) (a3 : Int32) : Ok TX (fun N h => D_X11_bag N h 0 a1 a2 a3) (fun N h => D_X12_bag N h 83 a1 a2 a3) := by
  sorry
theorem Ok_rooms (hTX : TXc TX) (a1 : Int32) (a2 : Int32) : Ok TX (fun N h => D_X11_rooms N h 0 a1 a2) (fun N h => D_X12_rooms N h 83 a1 a2) := by
  sorry
theorem Ok_night (hTX : TXc TX) (a1 : Int32) (a2 : Int32) (a3 : Int32) : Ok TX (fun N h => D_X11_night N h 0 a1 a2 a3) (fun N h => D_X12_night N h 83 a1 a2 a3) := by
  sorry
theorem Ok_check (hTX : TXc TX) (a1 : Int32) : Ok TX (fun N h => D_X11_check N h 0 a1) (fun N h => D_X12_check N h 83 a1) := by
  sorry
end STUBS
