/-! a spill begins: the reference's whole -/
section P27
variable {h : mh_H} {N j : Nat} {F0 : F2} {Z : Z1}
theorem m_spl (hs : Sh h) (hN : 10000 ≤ N) (F0 : F2) (Z : Z1) {q : Nat} (hj : j < 16) (h16 : Z 1 ≤ 16) (h24 : Z 2 ≤ 24) : D_X12_spills N (mh_w h (gz F0 Z)) 86 (nI j) (nI q) = some (mh_w h (gz F0 (sWy (sJt Z j q (Z 1)) (Z 2)))) := by
  have s2 : sJt Z j q (Z 1) 2 = Z 2 := by unfold sJt; rw [if_neg (by omega)]
  have a := m_s5 (q := q) hs N F0 Z hj h16 (Z 1) 0 N (by omega) (by omega)
  rw [sJt_0] at a
  have c := m_s51 hs hN F0 (sJt Z j q (Z 1)) (by rw [s2]; exact h24) (Z 2) 0 N (by rw [s2]; omega) (by omega)
  rw [s2] at c
  unfold D_X12_spills
  exact a.trans c
end P27
