/-! night: the subsets of a set of bits, in their order -/
section W01
variable {n A i j x : Nat}
def pd : Nat → Nat → Nat → Nat
  | 0, _, _ => 0
  | n + 1, A, i => if A % 2 = 1 then i % 2 + 2 * pd n (A / 2) (i / 2) else 2 * pd n (A / 2) i
theorem pd_T (h : A % 2 = 1) : pd (n + 1) A i = i % 2 + 2 * pd n (A / 2) (i / 2) := if_pos h
theorem pd_F (h : A % 2 = 0) : pd (n + 1) A i = 2 * pd n (A / 2) i := if_neg (by omega)
theorem and_step (a b : Nat) : a &&& b = (a % 2) * (b % 2) + 2 * (a / 2 &&& b / 2) := by
  have e1 : (a &&& b) / 2 = a / 2 &&& b / 2 := Nat.and_div_two
  have e2 : (a &&& b) % 2 = (a % 2) &&& (b % 2) := by
    have := @Nat.and_mod_two_pow a b 1
    rwa [Nat.pow_one] at this
  have e3 : (a % 2) &&& (b % 2) = (a % 2) * (b % 2) := by
    rcases Nat.mod_two_eq_zero_or_one a with p | p <;> rcases Nat.mod_two_eq_zero_or_one b with q | q <;> rw [p, q] <;> rfl
  rw [← e1, ← e3, ← e2]
  omega
theorem pcf_T (h : A % 2 = 1) : pcf (n + 1) A = pcf n (A / 2) + 1 := by rw [pcf, h]; omega
theorem pcf_F (h : A % 2 = 0) : pcf (n + 1) A = pcf n (A / 2) := by rw [pcf, h]; omega
theorem pd_le : ∀ n A i, pd n A i ≤ A := by
  intro n
  induction n with
  | zero => intro A i; exact Nat.zero_le _
  | succ n ih =>
    intro A i
    rcases Nat.mod_two_eq_zero_or_one A with q | q
    · have := ih (A / 2) i
      rw [pd_F q]; omega
    · have := ih (A / 2) (i / 2)
      rw [pd_T q]; omega
theorem pd_0 : ∀ n A, pd n A 0 = 0 := by
  intro n
  induction n with
  | zero => intro A; rfl
  | succ n ih =>
    intro A
    rcases Nat.mod_two_eq_zero_or_one A with q | q
    · rw [pd_F q, ih]
    · rw [pd_T q, show 0 / 2 = 0 from rfl, ih]
theorem pd_sub : ∀ n A i, pd n A i &&& A = pd n A i := by
  intro n
  induction n with
  | zero => intro A i; exact Nat.zero_and _
  | succ n ih =>
    intro A i
    rcases Nat.mod_two_eq_zero_or_one A with q | q
    · have e := ih (A / 2) i
      rw [pd_F q, and_step, show 2 * pd n (A / 2) i / 2 = pd n (A / 2) i by omega, e, q]
      omega
    · have e := ih (A / 2) (i / 2)
      rw [pd_T q, and_step, show (i % 2 + 2 * pd n (A / 2) (i / 2)) / 2 = pd n (A / 2) (i / 2) by omega, e, q]
      omega
theorem pd_cmp : ∀ n A i, A &&& (A - pd n A i) = A - pd n A i := by
  intro n
  induction n with
  | zero => intro A i; rw [pd, Nat.sub_zero, Nat.and_self]
  | succ n ih =>
    intro A i
    rcases Nat.mod_two_eq_zero_or_one A with q | q
    · have e := ih (A / 2) i
      have l := pd_le n (A / 2) i
      rw [pd_F q, and_step, show (A - 2 * pd n (A / 2) i) / 2 = A / 2 - pd n (A / 2) i by omega, e, q]
      omega
    · have e := ih (A / 2) (i / 2)
      have l := pd_le n (A / 2) (i / 2)
      rw [pd_T q, and_step, show (A - (i % 2 + 2 * pd n (A / 2) (i / 2))) / 2 = A / 2 - pd n (A / 2) (i / 2) by omega, e, q]
      omega
theorem pd_next : ∀ n A i, i + 1 < 2 ^ pcf n A → pd n A i < A ∧ A &&& (A - pd n A i - 1) = A - pd n A (i + 1) := by
  intro n
  induction n with
  | zero => intro A i hi; exact absurd hi (by rw [pcf]; omega)
  | succ n ih =>
    intro A i hi
    rcases Nat.mod_two_eq_zero_or_one A with q | q
    · rw [pcf_F q] at hi
      obtain ⟨l, e⟩ := ih (A / 2) i hi
      have l2 := pd_le n (A / 2) (i + 1)
      rw [pd_F q, pd_F q]
      refine ⟨by omega, ?_⟩
      rw [and_step, show (A - 2 * pd n (A / 2) i - 1) / 2 = A / 2 - pd n (A / 2) i - 1 by omega, e, q]
      omega
    · rw [pcf_T q, Nat.pow_succ] at hi
      rcases Nat.mod_two_eq_zero_or_one i with r | r
      · have l := pd_le n (A / 2) (i / 2)
        have e := pd_cmp n (A / 2) (i / 2)
        rw [pd_T q, pd_T q, r, show (i + 1) / 2 = i / 2 by omega, show (i + 1) % 2 = 1 by omega]
        refine ⟨by omega, ?_⟩
        rw [and_step, show (A - (0 + 2 * pd n (A / 2) (i / 2)) - 1) / 2 = A / 2 - pd n (A / 2) (i / 2) by omega, e, show (A - (0 + 2 * pd n (A / 2) (i / 2)) - 1) % 2 = 0 by omega]
        omega
      · obtain ⟨l, e⟩ := ih (A / 2) (i / 2) (by omega)
        have l2 := pd_le n (A / 2) (i / 2 + 1)
        rw [pd_T q, pd_T q, r, show (i + 1) / 2 = i / 2 + 1 by omega, show (i + 1) % 2 = 0 by omega]
        refine ⟨by omega, ?_⟩
        rw [and_step, show (A - (1 + 2 * pd n (A / 2) (i / 2)) - 1) / 2 = A / 2 - pd n (A / 2) (i / 2) - 1 by omega, e, q, show (A - (1 + 2 * pd n (A / 2) (i / 2)) - 1) % 2 = 1 by omega]
        omega
theorem pd_last : ∀ n A, A < 2 ^ n → pd n A (2 ^ pcf n A - 1) = A := by
  intro n
  induction n with
  | zero => intro A hA; rw [pd]; omega
  | succ n ih =>
    intro A hA
    rw [Nat.pow_succ] at hA
    have e := ih (A / 2) (by omega)
    have p1 : 0 < 2 ^ pcf n (A / 2) := Nat.pow_pos (by decide)
    rcases Nat.mod_two_eq_zero_or_one A with q | q
    · rw [pd_F q, pcf_F q, e]; omega
    · rw [pd_T q, pcf_T q, Nat.pow_succ, show (2 ^ pcf n (A / 2) * 2 - 1) / 2 = 2 ^ pcf n (A / 2) - 1 by omega, e]; omega
theorem pd_mono : ∀ n A i j, i < j → j < 2 ^ pcf n A → pd n A i < pd n A j := by
  intro n
  induction n with
  | zero => intro A i j h1 h2; exact absurd h2 (by rw [pcf]; omega)
  | succ n ih =>
    intro A i j h1 h2
    rcases Nat.mod_two_eq_zero_or_one A with q | q
    · rw [pcf_F q] at h2
      have := ih (A / 2) i j h1 h2
      rw [pd_F q, pd_F q]; omega
    · rw [pcf_T q, Nat.pow_succ] at h2
      rw [pd_T q, pd_T q]
      by_cases e : i / 2 = j / 2
      · rw [e]; omega
      · have := ih (A / 2) (i / 2) (j / 2) (by omega) (by omega)
        omega
theorem pd_sur : ∀ n A x, A < 2 ^ n → x &&& A = x → ∃ i, i < 2 ^ pcf n A ∧ pd n A i = x := by
  intro n
  induction n with
  | zero =>
    intro A x hA hx
    refine ⟨0, by rw [pcf]; decide, ?_⟩
    rw [show A = 0 by omega, Nat.and_zero] at hx
    exact hx
  | succ n ih =>
    intro A x hA hx
    rw [Nat.pow_succ] at hA
    have st := and_step x A
    rw [hx] at st
    have hx2 : x / 2 &&& A / 2 = x / 2 := by
      have : (x &&& A) / 2 = x / 2 &&& A / 2 := Nat.and_div_two
      rw [← this, hx]
    obtain ⟨i, hi, e⟩ := ih (A / 2) (x / 2) (by omega) hx2
    rcases Nat.mod_two_eq_zero_or_one A with q | q
    · refine ⟨i, by rw [pcf_F q]; exact hi, ?_⟩
      rw [q, hx2] at st
      rw [pd_F q, e]; omega
    · refine ⟨2 * i + x % 2, by rw [pcf_T q, Nat.pow_succ]; omega, ?_⟩
      rw [pd_T q, show (2 * i + x % 2) / 2 = i by omega, e]; omega
theorem sub_ex : ∀ n A k, k ≤ pcf n A → ∃ x, x &&& A = x ∧ pcf n x = k := by
  intro n
  induction n with
  | zero => intro A k hk; exact ⟨0, Nat.zero_and _, by rw [pcf] at hk ⊢; omega⟩
  | succ n ih =>
    intro A k hk
    rcases Nat.mod_two_eq_zero_or_one A with q | q
    · rw [pcf_F q] at hk
      obtain ⟨x, h1, h2⟩ := ih (A / 2) k hk
      refine ⟨2 * x, ?_, ?_⟩
      · rw [and_step, show 2 * x / 2 = x by omega, h1, q]; omega
      · rw [pcf_F (by omega), show 2 * x / 2 = x by omega, h2]
    · rw [pcf_T q] at hk
      by_cases k0 : k = 0
      · obtain ⟨x, h1, h2⟩ := ih (A / 2) 0 (by omega)
        refine ⟨2 * x, ?_, ?_⟩
        · rw [and_step, show 2 * x / 2 = x by omega, h1, show 2 * x % 2 = 0 by omega]; omega
        · rw [pcf_F (by omega), show 2 * x / 2 = x by omega, h2, k0]
      · obtain ⟨x, h1, h2⟩ := ih (A / 2) (k - 1) (by omega)
        refine ⟨2 * x + 1, ?_, ?_⟩
        · rw [and_step, show (2 * x + 1) / 2 = x by omega, h1, q]; omega
        · rw [pcf_T (by omega), show (2 * x + 1) / 2 = x by omega, h2]; omega
/-- the same, in bits -/
theorem nI_sub_and (hA : A < 2 ^ 16) (hx : x < A) : (nI x - nI A) &&& nI A = nI (A - (A &&& (A - x - 1))) := by
  obtain ⟨c, hc, rfl⟩ : ∃ c, c < A ∧ x = A - c - 1 := ⟨A - x - 1, by omega, by omega⟩
  have e1 : nI (A - c - 1) - nI A = nI c ^^^ -1 := by
    apply Int32.toBitVec_inj.mp
    show BitVec.ofNat 32 (A - c - 1) - BitVec.ofNat 32 A = BitVec.ofNat 32 c ^^^ (BitVec.allOnes 32)
    rw [BitVec.xor_allOnes, ← BitVec.allOnes_sub_eq_not]
    apply BitVec.eq_of_toNat_eq
    rw [BitVec.toNat_sub, BitVec.toNat_sub, BitVec.toNat_ofNat, BitVec.toNat_ofNat, BitVec.toNat_ofNat, BitVec.toNat_allOnes]
    have : A < 65536 := hA
    omega
  rw [e1, show A - (A - c - 1) - 1 = c by omega]
  have e4 : A - (A &&& c) = A ^^^ (A &&& c) := by
    have : ∀ n A c, A < 2 ^ n → A - (A &&& c) = A ^^^ (A &&& c) := by
      intro n
      induction n with
      | zero => intro A c h; rw [show A = 0 by omega, Nat.zero_and]; rfl
      | succ n ih =>
        intro A c h
        rw [Nat.pow_succ] at h
        have e := ih (A / 2) (c / 2) (by omega)
        have l : A / 2 &&& c / 2 ≤ A / 2 := Nat.and_le_left
        have st := and_step A c
        have d1 : (A ^^^ (A &&& c)) / 2 = A / 2 ^^^ (A &&& c) / 2 := Nat.xor_div_two
        have d2 : (A ^^^ (A &&& c)) % 2 = (A % 2 + (A &&& c) % 2) % 2 := by
          have := @Nat.xor_mod_two_pow A (A &&& c) 1
          rw [Nat.pow_one] at this
          rw [this]
          rcases Nat.mod_two_eq_zero_or_one A with p | p <;> rcases Nat.mod_two_eq_zero_or_one (A &&& c) with q | q <;> rw [p, q] <;> rfl
        have d3 : (A &&& c) / 2 = A / 2 &&& c / 2 := Nat.and_div_two
        rw [d3, ← e] at d1
        have m1 : A % 2 * (c % 2) ≤ A % 2 := by
          rcases Nat.mod_two_eq_zero_or_one c with p | p <;> rw [p] <;> omega
        generalize A % 2 * (c % 2) = y at *
        omega
    exact this 16 A c hA
  rw [e4]
  apply Int32.toBitVec_inj.mp
  show (BitVec.ofNat 32 c ^^^ (BitVec.allOnes 32)) &&& BitVec.ofNat 32 A = BitVec.ofNat 32 (A ^^^ (A &&& c))
  apply BitVec.eq_of_getLsbD_eq
  intro i hi
  simp only [BitVec.getLsbD_and, BitVec.getLsbD_xor, BitVec.getLsbD_ofNat, BitVec.getLsbD_allOnes, hi, decide_true, Bool.true_and, Nat.testBit_xor, Nat.testBit_and]
  cases A.testBit i <;> cases c.testBit i <;> rfl
/-- the next greater one -/
theorem nxt_pd (hA : A < 2 ^ 16) (hi : i + 1 < 2 ^ pcn A) : (nI (pd 16 A i) - nI A) &&& nI A = nI (pd 16 A (i + 1)) := by
  obtain ⟨l, e⟩ := pd_next 16 A i hi
  have := pd_le 16 A (i + 1)
  rw [nI_sub_and hA l, e]
  congr 1
  omega
theorem nxt_end (x : Nat) : (nI x - nI x) &&& nI x = nI 0 := by
  have : nI x - nI x = nI 0 := by
    rw [Int32.sub_self]; rfl
  rw [this, nI_and, Nat.zero_and]
theorem nxt_neg (x : Nat) : nI x &&& (-nI x) = (nI 0 - nI x) &&& nI x := by
  have : nI 0 - nI x = -nI x := Int32.zero_sub _
  rw [this, Int32.and_comm]
theorem pcn_pd (hA : A < 2 ^ 16) : pd 16 A i < 2 ^ 16 := Nat.lt_of_le_of_lt (pd_le 16 A i) hA
end W01
