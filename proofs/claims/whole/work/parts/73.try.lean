/-! a first try: joints -/
section TRY
variable {h : mh_H}
theorem c_isJoint (hs : Sh h) (N : Nat) (G : F2) (C : C2) (j : Int32) : D_X10_isJoint N (mh_w h (cz G C)) 1 j = some (ib (0 ≤ j ∧ j < nI (C 1 0)) inferInstance, mh_w h (cz G C)) := by
  unfold D_X10_isJoint
  rw [cz_gI hs (by decide) (by decide) (by decide), some_bind]
  by_cases h1 : j < 0
  · have h2 : ¬ (0 ≤ j ∧ j < nI (C 1 0)) := fun q => absurd h1 (Int32.not_lt.mpr q.1)
    simp [h1, h2, ib, zB]
  · have h1' : 0 ≤ j := Int32.not_lt.mp h1
    by_cases h2 : nI (C 1 0) ≤ j
    · have h3 : ¬ j < nI (C 1 0) := Int32.not_lt.mpr h2
      simp [h1, h2, h3, ib, zB]
    · have h3 : j < nI (C 1 0) := Int32.not_le.mp h2
      simp [h1, h1', h2, h3, ib, zB]
theorem m_isJoint (hs : Sh h) (N : Nat) (G : F2) (Z : Z1) (hZ : Z 1 ≤ 16) (j : Int32) : D_X12_isJoint N (mh_w h (gz G Z)) 83 j = some (ib (0 ≤ j ∧ j < nI (Z 1)) inferInstance, mh_w h (gz G Z)) := by
  unfold D_X12_isJoint
  rw [gR_s hs _ (by decide) (by decide) (show Rd 83 0 = some 84 by decide), some_bind, mz_getl hs (by decide), some_bind, l_in, some_bind, zB_ib]
  congr 2
  refine ib_iff ?_
  rw [w0_le, wd_le]
  constructor
  · rintro ⟨q1, q2⟩
    refine ⟨q1, ?_⟩
    rw [Int32.lt_iff_toInt_lt, nI_toInt (by omega)]
    rw [Int32.le_iff_toInt_le] at q1 q2
    rcases Nat.eq_zero_or_pos (Z 1) with e | e
    · rw [e] at q2
      have : (nI 0 - (1 : Int32)).toInt = -1 := by decide
      have e0 : (0 : Int32).toInt = 0 := by decide
      omega
    · obtain ⟨k, hk⟩ : ∃ k, Z 1 = k + 1 := ⟨Z 1 - 1, by omega⟩
      rw [hk, nI_pred, nI_toInt (by omega)] at q2
      omega
  · rintro ⟨q1, q2⟩
    refine ⟨q1, ?_⟩
    rw [Int32.lt_iff_toInt_lt, nI_toInt (by omega)] at q2
    rw [Int32.le_iff_toInt_le] at q1 ⊢
    have e0 : (0 : Int32).toInt = 0 := by decide
    obtain ⟨k, hk⟩ : ∃ k, Z 1 = k + 1 := ⟨Z 1 - 1, by omega⟩
    rw [hk, nI_pred, nI_toInt (by omega)]
    omega
end TRY
