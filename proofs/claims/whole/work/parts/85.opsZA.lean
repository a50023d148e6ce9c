/-! rooms: the class's covers and the reference's do the same -/
section OPSZA
variable {h : mh_H} {TX : Nat → Nat → (Nat → Nat) → Z1 → Prop} {G G' F0 : F2} {C C' : C2} {Z Z' : Z1} {M : Nat}
/-- rows that are scratch alone have changed -/
theorem R_all.scr (hR : R_all TX h G Z C) (hC : ∀ a, a < 19 ∨ 22 < a → C' a = C a) (hG : ∀ a, a < 91 ∨ 100 < a → G' a = G a) : R_all TX h G' Z C' := by
  obtain ⟨r1, r2, r4, r5, hw, Zk, hk, hwk⟩ := hR
  refine ⟨?_, ?_, ?_, ?_, (hw.scr hC).congr (fun _ _ _ => rfl) (fun a q => hG a (by omega)) (hG _ (by omega)) (hG _ (by omega)), Zk, fun i hi => ?_, hwk.congr (fun a q1 q2 => hC a (by omega)) (fun a q => hG a (by omega)) (hG _ (by omega)) (hG _ (by omega))⟩
  · unfold R_err at r1 ⊢
    rw [hG 90 (by omega), hC 81 (by omega)]; exact r1
  · rw [hG 86 (by omega), hC 0 (by omega)]; exact r2
  · unfold R_sheet at r4 ⊢
    rw [hG 102 (by omega), hG 103 (by omega), hG 104 (by omega), hG 84 (by omega), hC 82 (by omega), hC 83 (by omega)]; exact r4
  · unfold R_trace at r5 ⊢
    rw [hC 79 (by omega), hC 80 (by omega), hG 86 (by omega), hG 101 (by omega)]; exact r5
  · rw [hG 88 (by omega)]; exact hk i hi
theorem sl_end {x n : Nat} (hx : x < 2 ^ n) : ∀ m, n ≤ m → sl x m = sl x n := by
  intro m
  induction m with
  | zero => intro hn; rw [show n = 0 by omega]
  | succ m ih =>
    intro hn
    by_cases e : n = m + 1
    · rw [e]
    · have hb : ¬ x.testBit m = true := fun hb => by have := bit_lt hx hb; omega
      rw [sl_F hb, ih (by omega)]
/-- a set of numbers below n -/
theorem mk_set (P : Nat → Prop) : ∀ n, ∃ q, q < 2 ^ n ∧ ∀ i, q.testBit i = true ↔ i < n ∧ P i := by
  intro n
  induction n with
  | zero => exact ⟨0, by decide, fun i => by rw [Nat.zero_testBit]; exact ⟨fun q => (by cases q), fun q => by omega⟩⟩
  | succ n ih =>
    obtain ⟨q, h1, h2⟩ := ih
    have hlt : 2 ^ n < 2 ^ (n + 1) := Nat.pow_lt_pow_right (by decide) (by omega)
    by_cases hp : P n
    · refine ⟨q ||| 2 ^ n, Nat.or_lt_two_pow (Nat.lt_trans h1 hlt) hlt, fun i => ?_⟩
      rw [or_bit, h2]
      constructor
      · rintro (w | w)
        · exact ⟨by omega, w.2⟩
        · rw [w]; exact ⟨by omega, hp⟩
      · rintro ⟨w1, w2⟩
        by_cases e : i = n
        · exact Or.inr e
        · exact Or.inl ⟨by omega, w2⟩
    · refine ⟨q, Nat.lt_trans h1 hlt, fun i => ?_⟩
      rw [h2]
      constructor
      · rintro ⟨w1, w2⟩; exact ⟨by omega, w2⟩
      · rintro ⟨w1, w2⟩
        refine ⟨?_, w2⟩
        by_cases e : i = n
        · rw [e] at w2; exact absurd w2 hp
        · omega
theorem CV_cls {c : Nat → Nat} {n : Nat} (f : Nat → Nat) : ∀ K L, (∀ s, s < K → f s < n) → (∀ b, L.testBit b = true → ∃ s, s < K ∧ (c (f s)).testBit b = true) → CV c n K L := by
  intro K
  induction K with
  | zero =>
    intro L _ h
    show L = 0
    apply Nat.eq_of_testBit_eq
    intro i
    rw [Nat.zero_testBit]
    cases e : L.testBit i with
    | false => rfl
    | true => obtain ⟨s, q, -⟩ := h i e; omega
  | succ K ih =>
    intro L hf h
    refine Or.inr ⟨f K, hf K (by omega), ih _ (fun s q => hf s (by omega)) (fun b hb => ?_)⟩
    rw [dif_bit, Bool.and_eq_true] at hb
    obtain ⟨s, q1, q2⟩ := h b hb.1
    refine ⟨s, ?_, q2⟩
    by_cases e : s = K
    · rw [e] at q2
      rw [q2] at hb
      cases hb.2
    · omega
theorem CV_same {sd : Nat → Nat → Nat} {n o su : Nat} {hd : Nat → Nat} (hn : n ≤ 5) (ho : o ≤ 5) (h21 : ∀ i, i < n → ∀ c, (C 21 i).testBit c = true ↔ c < o ∧ sd i c ≠ 1) (hsu : ∀ b, su.testBit b = true ↔ ∃ i c, i < n ∧ c < o ∧ b = 5 * i + c ∧ sd i c = 3) (h22 : ∀ q, q < 32 → SPc C n su q (C' 22 q)) (hhd : ∀ q, q < 2 ^ n → ∀ b, (hd q).testBit b = true ↔ ∃ i c, i < n ∧ q.testBit i = true ∧ (c < o ∧ ∀ i, i < n → q.testBit i = true → sd i c ≠ 1) ∧ b = 5 * i + c) (k : Nat) : CV (C' 22) 32 k su ↔ CV hd (2 ^ n) k su := by
  have hp : 2 ^ n ≤ 32 := Nat.le_trans (Nat.pow_le_pow_right (n := 2) (by decide) hn) (show 2 ^ 5 ≤ 32 by decide)
  constructor
  · refine CV_sub (S := su) (fun q hq => ?_) k su (fun _ e => e)
    refine ⟨q % 2 ^ n, Nat.mod_lt _ (Nat.two_pow_pos _), fun b hb hc => ?_⟩
    have hm : ∀ i, i < n → ((q % 2 ^ n).testBit i = true ↔ q.testBit i = true) := fun i hi => by
      rw [Nat.testBit_mod_two_pow, Bool.and_eq_true, decide_eq_true_iff]
      exact ⟨fun w => w.2, fun w => ⟨hi, w⟩⟩
    obtain ⟨v1, v2, v3⟩ := h22 q hq
    by_cases hx : ∃ i, i < n ∧ ¬ q.testBit i = true ∧ ∀ c, LTb C n q c → (C 21 i).testBit c = true
    · rw [v2 hx, Nat.zero_testBit] at hc; cases hc
    · obtain ⟨⟨i, c, p1, p2, p3, p4⟩, -⟩ := (v3 hx b).mp hc
      obtain ⟨i', c', s1, s2, s3, s4⟩ := (hsu b).mp hb
      have hc5 := p3.1
      rw [hhd _ (Nat.mod_lt _ (Nat.two_pow_pos _)) b]
      refine ⟨i, c, p1, (hm i p1).mpr p2, ⟨by omega, fun i2 hi2 hb2 => ?_⟩, p4⟩
      exact ((h21 i2 hi2 c).mp (p3.2 i2 hi2 ((hm i2 hi2).mp hb2))).2
  · refine CV_sub (S := su) (fun r hr => ?_) k su (fun _ e => e)
    obtain ⟨q, q1, q2⟩ := mk_set (fun i => ∀ c, LTb C n r c → (C 21 i).testBit c = true) n
    have hq32 : q < 32 := by omega
    have hsub : ∀ i, i < n → r.testBit i = true → q.testBit i = true := fun i hi hb => (q2 i).mpr ⟨hi, fun c hc => hc.2 i hi hb⟩
    have hlt : ∀ c, LTb C n q c ↔ LTb C n r c := fun c => ⟨fun w => ⟨w.1, fun i hi hb => w.2 i hi (hsub i hi hb)⟩, fun w => ⟨w.1, fun i hi hb => ((q2 i).mp hb).2 c w⟩⟩
    refine ⟨q, hq32, fun b hb hc => ?_⟩
    obtain ⟨v1, v2, v3⟩ := h22 q hq32
    have hx : ¬ ∃ i, i < n ∧ ¬ q.testBit i = true ∧ ∀ c, LTb C n q c → (C 21 i).testBit c = true := by
      rintro ⟨i, i1, i2, i3⟩
      exact i2 ((q2 i).mpr ⟨i1, fun c hc => i3 c ((hlt c).mpr hc)⟩)
    rw [v3 hx b]
    obtain ⟨i, c, p1, p2, ⟨p3, p4⟩, p5⟩ := (hhd r hr b).mp hc
    exact ⟨⟨i, c, p1, hsub i p1 p2, (hlt c).mpr ⟨by omega, fun i2 hi2 hb2 => (h21 i2 hi2 c).mpr ⟨p3, p4 i2 hi2 hb2⟩⟩, p5⟩, hb⟩
theorem CV_min {sd : Nat → Nat → Nat} {n o su : Nat} {hd : Nat → Nat} (hsu : ∀ b, su.testBit b = true ↔ ∃ i c, i < n ∧ c < o ∧ b = 5 * i + c ∧ sd i c = 3) (hhd : ∀ q, q < 2 ^ n → ∀ b, (hd q).testBit b = true ↔ ∃ i c, i < n ∧ q.testBit i = true ∧ (c < o ∧ ∀ i, i < n → q.testBit i = true → sd i c ≠ 1) ∧ b = 5 * i + c) : CV hd (2 ^ n) (min n o) su := by
  by_cases hno : n ≤ o
  · rw [Nat.min_eq_left hno]
    refine CV_cls (fun s => 2 ^ s) n su (fun s hs => Nat.pow_lt_pow_right (by decide) hs) (fun b hb => ?_)
    obtain ⟨i, c, s1, s2, s3, s4⟩ := (hsu b).mp hb
    refine ⟨i, s1, ?_⟩
    show (hd (2 ^ i)).testBit b = true
    rw [hhd _ (Nat.pow_lt_pow_right (by decide) s1) b]
    refine ⟨i, c, s1, ?_, ⟨s2, fun i2 _ hb2 => ?_⟩, s3⟩
    · rw [pow_tb]; exact decide_eq_true rfl
    · rw [pow_tb, decide_eq_true_iff] at hb2
      rw [← hb2]; omega
  · rw [Nat.min_eq_right (by omega)]
    have hf : ∀ c, ∃ q, q < 2 ^ n ∧ ∀ i, q.testBit i = true ↔ i < n ∧ sd i c ≠ 1 := fun c => mk_set (fun i => sd i c ≠ 1) n
    refine CV_cls (fun c => Classical.choose (hf c)) o su (fun s hs => (Classical.choose_spec (hf s)).1) (fun b hb => ?_)
    obtain ⟨i, c, s1, s2, s3, s4⟩ := (hsu b).mp hb
    have hcs := Classical.choose_spec (hf c)
    refine ⟨c, s2, ?_⟩
    show (hd (Classical.choose (hf c))).testBit b = true
    rw [hhd _ hcs.1 b]
    exact ⟨i, c, s1, (hcs.2 i).mpr ⟨s1, by omega⟩, ⟨s2, fun i2 _ hb2 => ((hcs.2 i2).mp hb2).2⟩, s3⟩
theorem sub_bset {k q : Nat} (hk : k < 2 ^ Z 1) : subB k (bset (fun j => Z (44 + 11 * j) = q) 0 (Z 1) 0) ↔ ¬ ∃ i, 0 ≤ i ∧ i < Z 1 ∧ k.testBit i = true ∧ Z (44 + 11 * i) ≠ q := by
  constructor
  · rintro hs ⟨i, _, i2, i3, i4⟩
    have := (bset_bit (fun j => Z (44 + 11 * j) = q) i (Z 1) 0 0).mp (hs i i3)
    rw [Nat.zero_testBit] at this
    rcases this with e | e
    · cases e
    · exact i4 e.2.2
  · intro hn i hi
    refine (bset_bit (fun j => Z (44 + 11 * j) = q) i (Z 1) 0 0).mpr (Or.inr ⟨by omega, by have := bit_lt hk hi; omega, ?_⟩)
    by_cases e : Z (44 + 11 * i) = q
    · exact e
    · exact absurd ⟨i, by omega, bit_lt hk hi, hi, e⟩ hn
end OPSZA
