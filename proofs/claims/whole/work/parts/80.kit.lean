/-! all ints as numbers: literals, comparisons, sums, for evaluation by simp -/
theorem lit (n : Nat) : (no_index (OfNat.ofNat n) : Int32) = nI (OfNat.ofNat n) := rfl
theorem lt64 {n : Nat} (h : (OfNat.ofNat n : Nat) < 2 ^ 31) : (no_index (OfNat.ofNat n) : Int64) = (nI (OfNat.ofNat n)).toInt64 := by
  apply Int64.toInt_inj.mp
  rw [Int32.toInt_toInt64, nI_toInt h]
  show (Int64.ofNat n).toInt = _
  rw [Int64.toInt_ofNat_of_lt]
  · rfl
  · exact Nat.lt_trans h (by decide)
theorem ofI1 : Int32.ofInt 1 = nI 1 := rfl
theorem if_ib' {α : Type} {c : Prop} {dc : Decidable c} {A B : α} : (if ib c dc = nI 0 then A else B) = (@ite _ c dc B A) := if_ib
theorem zBn0 {h : mh_H} : zB (nI 0) h = some (nI 0, h) := rfl
theorem zBn1 {h : mh_H} : zB (nI 1) h = some (nI 1, h) := rfl
theorem zBn {h : mh_H} {n : Nat} (hn : n ≤ 1) : zB (nI n) h = some (nI n, h) := by
  rcases (show n = 0 ∨ n = 1 by omega) with rfl | rfl <;> rfl
theorem ibT {c : Prop} {dc : Decidable c} (h : c) : ib c dc = nI 1 := if_pos h
theorem ibF {c : Prop} {dc : Decidable c} (h : ¬ c) : ib c dc = nI 0 := if_neg h
theorem dN_n {α : Type} {n : Nat} {f : Option α} (h0 : 0 < n) (h : n < 2 ^ 31) : dN (nI n) f = f := if_neg (nI_ne0 h0 h)
theorem lt_T {a b : Nat} (ha : a < 2 ^ 31) (hb : b < 2 ^ 31) (h : a < b) : (nI a < nI b) = True := eq_true ((nI_ltI ha hb).mpr h)
theorem lt_F {a b : Nat} (ha : a < 2 ^ 31) (hb : b < 2 ^ 31) (h : b ≤ a) : (nI a < nI b) = False := eq_false (fun q => absurd ((nI_ltI ha hb).mp q) (Nat.not_lt.mpr h))
theorem le_T {a b : Nat} (ha : a < 2 ^ 31) (hb : b < 2 ^ 31) (h : a ≤ b) : (nI a ≤ nI b) = True := eq_true ((nI_leI ha hb).mpr h)
theorem le_F {a b : Nat} (ha : a < 2 ^ 31) (hb : b < 2 ^ 31) (h : b < a) : (nI a ≤ nI b) = False := eq_false (fun q => absurd ((nI_leI ha hb).mp q) (Nat.not_le.mpr h))
theorem eq_T {a b : Nat} (h : a = b) : (nI a = nI b) = True := eq_true (by rw [h])
theorem eq_F {a b : Nat} (ha : a < 2 ^ 31) (hb : b < 2 ^ 31) (h : ¬ a = b) : (nI a = nI b) = False := eq_false (fun q => h ((nI_eq ha hb).mp q))
theorem nI_sub {a b : Nat} (h : b ≤ a) : nI a - nI b = nI (a - b) := by
  obtain ⟨k, rfl⟩ := Nat.le.dest h
  rw [Nat.add_sub_cancel_left, Nat.add_comm, ← nI_add]
  exact Int32.add_sub_cancel _ _
theorem nI_div {a b : Nat} (ha : a < 2 ^ 31) (hb : b < 2 ^ 31) : nI a / nI b = nI (a / b) := by
  apply Int32.toInt_inj.mp
  have hq : a / b < 2 ^ 31 := Nat.lt_of_le_of_lt (Nat.div_le_self a b) ha
  rw [nI_toInt hq, Int32.toInt_div, nI_toInt ha, nI_toInt hb]
  have e : (a : Int).tdiv (b : Int) = ((a / b : Nat) : Int) := by
    rw [Int.tdiv_eq_ediv_of_nonneg (Int.natCast_nonneg a)]
    exact (Int.natCast_ediv a b).symm
  rw [e]
  apply Int.bmod_eq_of_le
  · generalize a / b = q at hq
    omega
  · generalize a / b = q at hq
    omega
theorem nI_md (a b : Nat) : nI a - nI (a / b * b) = nI (a % b) := by
  rw [nI_sub (Nat.div_mul_le_self a b)]
  congr 1
  have := Nat.div_add_mod a b
  rw [Nat.mul_comm] at this
  omega
theorem md (a b : Nat) : a - a / b * b = a % b := by
  have := Nat.div_add_mod a b
  rw [Nat.mul_comm] at this
  omega
section NEG
variable {x : Int32} {a : Nat}
theorem ng_le (h : x < nI 0) (ha : a < 2 ^ 31) : (nI a ≤ x) = False := eq_false (fun q => absurd (Int32.lt_of_lt_of_le h (nI_pos' ha)) (Int32.not_lt.mpr q))
theorem ng_lt (h : x < nI 0) (ha : a < 2 ^ 31) : (nI a < x) = False := eq_false (fun q => absurd (Int32.lt_of_lt_of_le h (nI_pos' ha)) (Int32.not_lt.mpr (Int32.le_of_lt q)))
theorem lt_ng (h : x < nI 0) (ha : a < 2 ^ 31) : (x < nI a) = True := eq_true (Int32.lt_of_lt_of_le h (nI_pos' ha))
theorem le_ng (h : x < nI 0) (ha : a < 2 ^ 31) : (x ≤ nI a) = True := eq_true (Int32.le_of_lt (Int32.lt_of_lt_of_le h (nI_pos' ha)))
theorem eq_ng (h : x < nI 0) (ha : a < 2 ^ 31) : (x = nI a) = False := eq_false (fun q => by rw [q] at h; exact nI_pos ha h)
theorem le_pred (ha : a < 2 ^ 31) : (x ≤ nI a - nI 1) = (x < nI a) := by
  apply propext
  rcases Nat.eq_zero_or_pos a with rfl | h
  · rw [Int32.le_iff_toInt_le, Int32.lt_iff_toInt_lt]
    have e1 : (nI 0 - nI 1).toInt = -1 := by decide
    have e2 : (nI 0).toInt = 0 := by decide
    omega
  · rw [nI_sub h, Int32.le_iff_toInt_le, Int32.lt_iff_toInt_lt, nI_toInt ha, nI_toInt (by omega)]
    omega
/-- a check of a range: it fails, or the int is a number there -/
theorem chk (lo hi : Nat) (hlo : lo < 2 ^ 31) (hhi : hi < 2 ^ 31) (x : Int32) : (nI lo ≤ x ∧ x ≤ nI hi) = False ∨ ∃ n, lo ≤ n ∧ n ≤ hi ∧ x = nI n := by
  by_cases h : nI lo ≤ x ∧ x ≤ nI hi
  · obtain ⟨n, hn, rfl⟩ := nI_of (Int32.not_lt.mpr (Int32.le_trans (nI_pos' hlo) h.1))
    exact Or.inr ⟨n, (nI_leI hlo hn).mp h.1, (nI_leI hn hhi).mp h.2, rfl⟩
  · exact Or.inl (eq_false h)
theorem chm (m : Nat) (hm : m < 2 ^ 31) (x : Int32) : (nI 0 ≤ x ∧ x < nI m) = False ∨ ∃ n, n < m ∧ x = nI n := by
  by_cases h : nI 0 ≤ x ∧ x < nI m
  · obtain ⟨n, hn, rfl⟩ := nI_of (Int32.not_lt.mpr h.1)
    exact Or.inr ⟨n, (nI_ltI hn hm).mp h.2, rfl⟩
  · exact Or.inl (eq_false h)
/-- below 0, beyond, or within -/
theorem arg3 (m : Nat) (x : Int32) : x < nI 0 ∨ (∃ n, m ≤ n ∧ n < 2 ^ 31 ∧ x = nI n) ∨ ∃ n, n < m ∧ x = nI n := by
  rcases int_cases x with h | ⟨n, hn, rfl⟩
  · exact Or.inl h
  · by_cases h : n < m
    · exact Or.inr (Or.inr ⟨n, h, rfl⟩)
    · exact Or.inr (Or.inl ⟨n, by omega, hn, rfl⟩)
end NEG
theorem m_in32 (N : Nat) (h : mh_H) (v a b : Int32) : D_X12_in N h v.toInt64 a.toInt64 b.toInt64 = some (ib (a ≤ v ∧ v ≤ b) inferInstance, h) := by
  rw [l_in]
  congr 2
  exact ib_iff (and_congr (wd_le a v) (wd_le v b))
theorem max_n {a b : Nat} (ha : a < 2 ^ 31) (hb : b < 2 ^ 31) : mh_max (nI a) (nI b) = nI (max a b) := by
  unfold mh_max
  by_cases h : a < b
  · rw [if_pos ((nI_ltI ha hb).mpr h), Nat.max_eq_right (by omega)]
  · rw [if_neg (fun q => h ((nI_ltI ha hb).mp q)), Nat.max_eq_left (by omega)]
theorem min_n {a b : Nat} (ha : a < 2 ^ 31) (hb : b < 2 ^ 31) : mh_min (nI a) (nI b) = nI (min a b) := by
  unfold mh_min
  by_cases h : b < a
  · rw [if_pos ((nI_ltI hb ha).mpr h), Nat.min_eq_right (by omega)]
  · rw [if_neg (fun q => h ((nI_ltI hb ha).mp q)), Nat.min_eq_left (by omega)]
section KIT
variable {h : mh_H}
theorem c_er (hs : Sh h) (N : Nat) (G : F2) (C : C2) {k : Nat} (h1 : 1 ≤ k) (h2 : k ≤ 6) : D_X11_error N (mh_w h (cz G C)) 0 (nI k) = some (-1000000 - nI k, mh_w h (cz G (upC C 81 k (C 81 k + 1)))) := c_error hs N G C ⟨h1, h2⟩
theorem m_er (hs : Sh h) (N : Nat) (G : F2) (C : C2) (Z : Z1) {k : Nat} (h1 : 1 ≤ k) (h2 : k ≤ 6) : D_X12_error N (mh_w h (gz (cz G C) Z)) 86 (nI k) = some (-1000000 - nI k, mh_w h (gz (cz (up2 G 90 k (G 90 k + 1)) C) Z)) := m_error hs N G C Z ⟨h1, h2⟩
theorem l_isC (N : Nat) (H : mh_H) (c : Int32) : D_X11_isColour N H c = some (ib (nI 0 ≤ c ∧ c ≤ nI 3) inferInstance, H) := l_isColour N H c
theorem l_isS (N : Nat) (H : mh_H) (c : Int32) : D_X11_isSheet N H c = some (ib (nI 0 ≤ c ∧ c ≤ nI 3) inferInstance, H) := l_isSheet N H c
theorem m_isC (N : Nat) (H : mh_H) (c : Int32) : D_X12_isColour N H c = some (ib (nI 0 ≤ c ∧ c ≤ nI 3) inferInstance, H) := m_isColour N H c
theorem m_isS (N : Nat) (H : mh_H) (c : Int32) : D_X12_isSheet N H c = some (ib (nI 0 ≤ c ∧ c ≤ nI 3) inferInstance, H) := m_isSheet N H c
theorem c_isJ (hs : Sh h) (N : Nat) (G : F2) (C : C2) (j : Int32) : D_X10_isJoint N (mh_w h (cz G C)) 1 j = some (ib (nI 0 ≤ j ∧ j < nI (C 1 0)) inferInstance, mh_w h (cz G C)) := c_isJoint hs N G C j
theorem m_isJ (hs : Sh h) (N : Nat) (G : F2) (Z : Z1) (hZ : Z 1 ≤ 16) (j : Int32) : D_X12_isJoint N (mh_w h (gz G Z)) 86 j = some (ib (nI 0 ≤ j ∧ j < nI (Z 1)) inferInstance, mh_w h (gz G Z)) := m_isJoint hs N G Z hZ j
theorem m_jnt (N : Nat) (H : mh_H) (j : Nat) : D_X12_joint N H (nI j) = some (nI (44 + 11 * j), H) := m_joint N H j
theorem bit_n (N : Nat) (H : mh_H) {x n : Nat} (hx : x < 2 ^ 31) (hn : n < 32) : D_X11_bit N H (nI x) (nI n) = some (nI (x / 2 ^ n % 2), H) := by
  rw [l_bit, nI_bit hx hn]
end KIT
/-! evaluation step by step, from the head -/
theorem bind_of {α β : Type} {x : Option α} {a : α} (h : x = some a) (f : α → Option β) : x.bind f = f a := by rw [h]; rfl
theorem ib0 {c : Prop} {dc : Decidable c} : (ib c dc = nI 0) = ¬ c := by
  by_cases h : c
  · rw [ibT h]; exact propext ⟨fun q => absurd q (by decide), fun q => absurd h q⟩
  · rw [ibF h]; exact propext ⟨fun _ => h, fun _ => rfl⟩
theorem ib1 {c : Prop} {dc : Decidable c} : (ib c dc = nI 1) = c := by
  by_cases h : c
  · rw [ibT h]; exact propext ⟨fun _ => h, fun _ => rfl⟩
  · rw [ibF h]; exact propext ⟨fun q => absurd q (by decide), fun q => absurd q h⟩
theorem dN24 {α : Type} {f : Option α} : dN 24 f = f := if_neg (by decide)
theorem dN100 {α : Type} {f : Option α} : dN 100 f = f := if_neg (by decide)
