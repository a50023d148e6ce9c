/-! covering pairs by rooms: a theory of its own -/
section OPSZ
/-- pairs L can be covered by k of the sets c r, r below n -/
def CV (c : Nat → Nat) (n : Nat) : Nat → Nat → Prop
  | 0, L => L = 0
  | k + 1, L => L = 0 ∨ ∃ r, r < n ∧ CV c n k (L ^^^ (L &&& c r))
theorem dif_bit (L x i : Nat) : (L ^^^ (L &&& x)).testBit i = (L.testBit i && !x.testBit i) := by
  rw [Nat.testBit_xor, Nat.testBit_and]
  cases L.testBit i <;> cases x.testBit i <;> rfl
theorem CV_mono {c : Nat → Nat} {n : Nat} : ∀ k L L', subB L' L → CV c n k L → CV c n k L' := by
  intro k
  induction k with
  | zero =>
    intro L L' hs h
    have h : L = 0 := h
    show L' = 0
    apply Nat.eq_of_testBit_eq
    intro i
    rw [Nat.zero_testBit]
    cases e : L'.testBit i with
    | false => rfl
    | true =>
      have := hs i e
      rw [h, Nat.zero_testBit] at this
      cases this
  | succ k ih =>
    intro L L' hs h
    rcases h with h | ⟨r, hr, h⟩
    · refine Or.inl ?_
      apply Nat.eq_of_testBit_eq
      intro i
      rw [Nat.zero_testBit]
      cases e : L'.testBit i with
      | false => rfl
      | true =>
        have := hs i e
        rw [h, Nat.zero_testBit] at this
        cases this
    · refine Or.inr ⟨r, hr, ih _ _ (fun i hi => ?_) h⟩
      rw [dif_bit, Bool.and_eq_true] at hi ⊢
      exact ⟨hs i hi.1, hi.2⟩
/-- more rooms do, too -/
theorem CV_succ {c : Nat → Nat} {n : Nat} (hn : 0 < n) : ∀ k L, CV c n k L → CV c n (k + 1) L := by
  intro k
  induction k with
  | zero => intro L h; exact Or.inl h
  | succ k ih =>
    intro L h
    rcases h with h | ⟨r, hr, h⟩
    · exact Or.inl h
    · exact Or.inr ⟨r, hr, ih _ h⟩
/-- a pair that must be covered may be covered first -/
theorem CV_first {c : Nat → Nat} {n : Nat} {b : Nat} : ∀ k L, L.testBit b = true → CV c n (k + 1) L → ∃ r, r < n ∧ (c r).testBit b = true ∧ CV c n k (L ^^^ (L &&& c r)) := by
  intro k
  induction k with
  | zero =>
    intro L hb h
    rcases h with h | ⟨r, hr, h⟩
    · rw [h, Nat.zero_testBit] at hb; cases hb
    · refine ⟨r, hr, ?_, h⟩
      have h : L ^^^ (L &&& c r) = 0 := h
      have := congrArg (fun x => Nat.testBit x b) h
      simp only [dif_bit, hb, Nat.zero_testBit, Bool.true_and, Bool.not_eq_false'] at this
      exact this
  | succ k ih =>
    intro L hb h
    rcases h with h | ⟨r, hr, h⟩
    · rw [h, Nat.zero_testBit] at hb; cases hb
    · cases e : (c r).testBit b with
      | true => exact ⟨r, hr, e, h⟩
      | false =>
        have hb2 : (L ^^^ (L &&& c r)).testBit b = true := by rw [dif_bit, hb, e]; rfl
        obtain ⟨q, hq, hq2, hq3⟩ := ih _ hb2 h
        refine ⟨q, hq, hq2, Or.inr ⟨r, hr, CV_mono k _ _ (fun i hi => ?_) hq3⟩⟩
        rw [dif_bit, dif_bit, Bool.and_eq_true, Bool.and_eq_true] at hi ⊢
        exact ⟨⟨hi.1.1, hi.2⟩, hi.1.2⟩
/-- sets that hold more cover more -/
theorem CV_sub {c d : Nat → Nat} {n m S : Nat} (hcd : ∀ r, r < n → ∃ q, q < m ∧ ∀ i, S.testBit i = true → (c r).testBit i = true → (d q).testBit i = true) : ∀ k L, subB L S → CV c n k L → CV d m k L := by
  intro k
  induction k with
  | zero => intro L _ h; exact h
  | succ k ih =>
    intro L hs h
    rcases h with h | ⟨r, hr, h⟩
    · exact Or.inl h
    · obtain ⟨q, hq, hq2⟩ := hcd r hr
      have hsub : ∀ x, subB (L ^^^ (L &&& x)) L := fun x i hi => by
        rw [dif_bit, Bool.and_eq_true] at hi
        exact hi.1
      refine Or.inr ⟨q, hq, ih _ (fun i hi => hs i (hsub _ i hi)) (CV_mono k _ _ (fun i hi => ?_) h)⟩
      rw [dif_bit, Bool.and_eq_true] at hi ⊢
      refine ⟨hi.1, ?_⟩
      cases e : (c r).testBit i with
      | false => rfl
      | true =>
        have := hq2 i (hs i hi.1) e
        rw [this] at hi
        cases hi.2
end OPSZ
