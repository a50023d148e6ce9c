/-! sets of joints as bits -/
section OPSY
variable {h : mh_H} {TX : Nat → Nat → (Nat → Nat) → Z1 → Prop} {G G' F0 : F2} {C C' : C2} {Z Z' : Z1} {M i p : Nat}
/-- how many bits -/
def pcf : Nat → Nat → Nat
  | 0, _ => 0
  | n + 1, x => x % 2 + pcf n (x / 2)
def pcn (x : Nat) : Nat := pcf 16 x
theorem pcf_le : ∀ n x, pcf n x ≤ n := by
  intro n
  induction n with
  | zero => intro x; exact Nat.le_refl _
  | succ n ih =>
    intro x
    unfold pcf
    have := ih (x / 2)
    omega
theorem pcn_le (x : Nat) : pcn x ≤ 16 := pcf_le 16 x
theorem pcf_ones : ∀ n x, 0 < x → x < 2 ^ n → pcf n (x &&& (x - 1)) + 1 = pcf n x := by
  intro n
  induction n with
  | zero => intro x h1 h2; omega
  | succ n ih =>
    intro x h1 h2
    unfold pcf
    have e1 : (x &&& (x - 1)) / 2 = x / 2 &&& (x - 1) / 2 := Nat.and_div_two
    have e2 : (x &&& (x - 1)) % 2 = (x % 2) &&& ((x - 1) % 2) := by
      have := @Nat.and_mod_two_pow x (x - 1) 1
      rwa [Nat.pow_one] at this
    rw [e1, e2]
    by_cases q : x % 2 = 1
    · have q2 : (x - 1) % 2 = 0 := by omega
      have q3 : (x - 1) / 2 = x / 2 := by omega
      rw [q, q2, q3, Nat.and_self]
      show 0 + pcf n (x / 2) + 1 = 1 + pcf n (x / 2)
      omega
    · have q2 : x % 2 = 0 := by omega
      have q3 : (x - 1) / 2 = x / 2 - 1 := by omega
      have := ih (x / 2) (by omega) (by rw [Nat.pow_succ] at h2; omega)
      rw [q2, q3, Nat.zero_and]
      omega
theorem ones_s {x : Nat} (hx : x < 2 ^ 16) (h0 : x ≠ 0) : pcn (x &&& (x - 1)) + 1 = pcn x ∧ x &&& (x - 1) < 2 ^ 16 := ⟨pcf_ones 16 x (by omega) hx, Nat.lt_of_le_of_lt Nat.and_le_left hx⟩
theorem m_ones_l (N : Nat) (H : mh_H) : ∀ (F n x : Nat), x < 2 ^ 16 → pcn x < F → D_X12_ones_4 N F H (nI n) (nI x) = some (nI (n + pcn x), H) := by
  intro F
  induction F with
  | zero => intro n x hx hF; omega
  | succ F ih =>
    intro n x hx hF
    rw [D_X12_ones_4]
    by_cases h0 : x = 0
    · rw [if_pos (by rw [h0]; rfl), h0]; rfl
    · obtain ⟨e1, e2⟩ := ones_s hx h0
      rw [if_neg (nI_ne0 (by omega) (by omega)), show Int32.ofInt 1 = nI 1 from rfl, nI_add]
      show D_X12_ones_4 N F H (nI (n + 1)) (nI x &&& (nI x - nI 1)) = _
      rw [nI_sub (by omega), nI_and, ih (n + 1) _ e2 (by omega), show n + 1 + pcn (x &&& (x - 1)) = n + pcn x by omega]
theorem m_ones {N : Nat} (hN : 10000 ≤ N) (H : mh_H) {x : Nat} (hx : x < 2 ^ 16) : D_X12_ones N H (nI x) = some (nI (pcn x), H) := by
  have := pcn_le x
  have e := m_ones_l N H N 0 x hx (by omega)
  rw [Nat.zero_add] at e
  exact e
/-- no bit beside those of m -/
def subB (k m : Nat) : Prop := ∀ i, k.testBit i = true → m.testBit i = true
theorem and_not0 (k m : Nat) (hk : k < 2 ^ 31) : (nI k &&& (nI m ^^^ -nI 1) = nI 0) = subB k m := by
  have e : nI k &&& (nI m ^^^ -nI 1) = nI (k ^^^ (k &&& m)) := by
    apply Int32.toBitVec_inj.mp
    show BitVec.ofNat 32 k &&& (BitVec.ofNat 32 m ^^^ (BitVec.allOnes 32)) = BitVec.ofNat 32 (k ^^^ (k &&& m))
    apply BitVec.eq_of_getLsbD_eq
    intro i hi
    simp only [BitVec.getLsbD_and, BitVec.getLsbD_xor, BitVec.getLsbD_ofNat, BitVec.getLsbD_allOnes, hi, decide_true, Bool.true_and, Nat.testBit_xor, Nat.testBit_and]
    cases k.testBit i <;> cases m.testBit i <;> rfl
  have hl : k ^^^ (k &&& m) < 2 ^ 31 := Nat.xor_lt_two_pow hk (Nat.lt_of_le_of_lt Nat.and_le_left hk)
  rw [e]
  refine propext ⟨fun q i hi => ?_, fun q => ?_⟩
  · have q := (nI_eq hl (by decide)).mp q
    have := congrArg (fun x => Nat.testBit x i) q
    simp only [Nat.testBit_xor, Nat.testBit_and, hi, Nat.zero_testBit, Bool.true_and] at this
    cases h2 : m.testBit i with
    | true => rfl
    | false => rw [h2] at this; cases this
  · congr 1
    apply Nat.eq_of_testBit_eq
    intro i
    rw [Nat.testBit_xor, Nat.testBit_and, Nat.zero_testBit]
    cases h1 : k.testBit i with
    | false => rfl
    | true => rw [q i h1]; rfl
theorem neg_not0 {x : Int32} (hx : x < nI 0) {m : Nat} (hm : m < 2 ^ 31) : (x &&& (nI m ^^^ -nI 1) = nI 0) = False := by
  refine eq_false fun q => ?_
  have hx0 : x.toBitVec.msb = true := by
    have : x.toInt < 0 := (Int32.lt_iff_toInt_lt).mp hx
    rw [BitVec.msb_eq_toInt]
    exact decide_eq_true this
  have e := congrArg (fun y : Int32 => y.toBitVec.getLsbD 31) q
  have e2 : (x &&& (nI m ^^^ -nI 1)).toBitVec.getLsbD 31 = (x.toBitVec.getLsbD 31 && (m.testBit 31 ^^ true)) := by
    show (x.toBitVec &&& (BitVec.ofNat 32 m ^^^ (BitVec.allOnes 32))).getLsbD 31 = _
    simp only [BitVec.getLsbD_and, BitVec.getLsbD_xor, BitVec.getLsbD_ofNat, BitVec.getLsbD_allOnes, show (31 < 32) = True from eq_true (by decide), decide_true, Bool.true_and]
  have e3 : (nI 0).toBitVec.getLsbD 31 = false := by decide
  rw [e2, e3, Nat.testBit_lt_two_pow hm, ← BitVec.msb_eq_getLsbD_last, hx0] at e
  cases e
theorem subB_lt {k n : Nat} : subB k (2 ^ n - 1) ↔ k < 2 ^ n := by
  constructor
  · intro q
    apply Nat.lt_pow_two_of_testBit
    intro i hi
    cases h1 : k.testBit i with
    | false => rfl
    | true =>
      have := q i h1
      rw [Nat.testBit_two_pow_sub_one] at this
      have := of_decide_eq_true this
      omega
  · intro q i hi
    rw [Nat.testBit_two_pow_sub_one]
    refine decide_eq_true ?_
    by_cases c : i < n
    · exact c
    · have := Nat.testBit_lt_two_pow (Nat.lt_of_lt_of_le q (Nat.pow_le_pow_right (by decide) (Nat.not_lt.mp c)))
      rw [this] at hi
      cases hi
end OPSY
