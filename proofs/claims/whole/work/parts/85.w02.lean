/-! night: sums over bits; springs with the most pairs first -/
section W02
variable {n A B b g i j x k v s θ : Nat} {w : Nat → Nat}
theorem sumX (w : Nat → Nat) (b c : Nat) : ∀ m, sumR (fun t => if b.testBit t = true then 65536 * w t + c else 0) 0 m = 65536 * sumR (fun t => if b.testBit t = true then w t else 0) 0 m + c * pcf m b := by
  intro m
  induction m with
  | zero => rfl
  | succ m ih =>
    rw [sumR_l, sumR_l, ih, pcf_last, bit_01, Nat.zero_add]
    by_cases q : b.testBit m = true
    · rw [if_pos q, if_pos q, if_pos q, Nat.mul_add, Nat.mul_add]; omega
    · rw [if_neg q, if_neg q, if_neg q]; simp only [Nat.add_zero]
theorem sumY (g θ : Nat) : ∀ m, sumR (fun t => if g.testBit t = true then 2 ^ t + θ else 0) 0 m = g % 2 ^ m + θ * pcf m g := by
  intro m
  induction m with
  | zero => show 0 = g % 1 + θ * 0; omega
  | succ m ih =>
    rw [sumR_l, ih, pcf_last, bit_01, Nat.zero_add, Nat.mod_pow_succ, bit_01]
    by_cases q : g.testBit m = true
    · rw [if_pos q, if_pos q, Nat.mul_add]; omega
    · rw [if_neg q, if_neg q]; simp only [Nat.add_zero, Nat.mul_zero]
theorem sumB (b : Nat) : ∀ m, sumR (fun t => if b.testBit t = true then 1 else 0) 0 m = pcf m b := by
  intro m
  induction m with
  | zero => rfl
  | succ m ih => rw [sumR_l, ih, pcf_last, bit_01, Nat.zero_add]
/-- what a set of springs brings -/
def sc (w : Nat → Nat) (b : Nat) : Nat := sumR (fun t => if b.testBit t = true then w t else 0) 0 16
theorem greedy (hg : ∀ t, t < 16 → (g.testBit t = true ↔ B.testBit t = true ∧ (v < w t ∨ (w t = v ∧ t < s)))) (hs : s ≤ 16) (hb : b &&& B = b) (hg16 : g < 2 ^ 16) (hb16 : b < 2 ^ 16) (hp : pcn b = pcn g) : sc w b ≤ sc w g ∧ (sc w b = sc w g → g ≤ b) := by
  obtain ⟨θ, hθ⟩ : ∃ θ, θ + 2 ^ s = 65536 * v + 65536 := by
    have : 2 ^ s ≤ 2 ^ 16 := Nat.pow_le_pow_right (by decide) hs
    exact ⟨65536 * v + 65536 - 2 ^ s, by omega⟩
  have s16 : 2 ^ s ≤ 2 ^ 16 := Nat.pow_le_pow_right (by decide) hs
  have key : sumR (fun t => (if b.testBit t = true then 65536 * w t + 65536 else 0) + (if g.testBit t = true then 2 ^ t + θ else 0)) 0 16 ≤ sumR (fun t => (if g.testBit t = true then 65536 * w t + 65536 else 0) + (if b.testBit t = true then 2 ^ t + θ else 0)) 0 16 := by
    refine sumR_le (fun t => ?_) 16 0
    by_cases t16 : t < 16
    · have p16 : 2 ^ t ≤ 2 ^ 16 := Nat.pow_le_pow_right (by decide) (by omega)
      have p0 : 0 < 2 ^ t := Nat.two_pow_pos t
      have s0 : 0 < 2 ^ s := Nat.two_pow_pos s
      by_cases qb : b.testBit t = true
      · by_cases qg : g.testBit t = true
        · rw [if_pos qb, if_pos qg, if_pos qb, if_pos qg]; omega
        · rw [if_pos qb, if_neg qg, if_pos qb, if_neg qg]
          have qB : B.testBit t = true := by
            rw [← hb, Nat.testBit_and, Bool.and_eq_true] at qb
            exact qb.2
          have nq : ¬ (v < w t ∨ (w t = v ∧ t < s)) := fun q => qg ((hg t t16).mpr ⟨qB, q⟩)
          by_cases e : w t = v
          · have : 2 ^ s ≤ 2 ^ t := Nat.pow_le_pow_right (by decide) (by omega)
            rw [e]; omega
          · have : w t + 1 ≤ v := by omega
            omega
      · by_cases qg : g.testBit t = true
        · rw [if_neg qb, if_pos qg, if_neg qb, if_pos qg]
          rcases ((hg t t16).mp qg).2 with q | ⟨q1, q2⟩
          · omega
          · have : 2 ^ t ≤ 2 ^ s := Nat.pow_le_pow_right (by decide) (by omega)
            rw [q1]; omega
        · rw [if_neg qb, if_neg qg, if_neg qb, if_neg qg]; omega
    · have n1 : ¬ b.testBit t = true := fun q => t16 (bit_lt hb16 q)
      have n2 : ¬ g.testBit t = true := fun q => t16 (bit_lt hg16 q)
      rw [if_neg n1, if_neg n2, if_neg n1, if_neg n2]; omega
  rw [sumR_add, sumR_add, sumX, sumX, sumY, sumY, Nat.mod_eq_of_lt hg16, Nat.mod_eq_of_lt hb16] at key
  have hp' : pcf 16 b = pcf 16 g := hp
  rw [hp'] at key
  unfold sc
  generalize θ * pcf 16 g = y1 at key
  generalize pcf 16 g = y2 at key
  generalize sumR (fun t => if b.testBit t = true then w t else 0) 0 16 = y3 at key ⊢
  generalize sumR (fun t => if g.testBit t = true then w t else 0) 0 16 = y4 at key ⊢
  have : b < 65536 := hb16
  have : g < 65536 := hg16
  constructor
  · omega
  · intro e; omega
theorem sumR_ex (F : Nat → Nat → Nat) (n : Nat) : ∀ m, sumR (fun i => sumR (fun j => F i j) 0 n) 0 m = sumR (fun j => sumR (fun i => F i j) 0 m) 0 n := by
  intro m
  induction m with
  | zero => rw [sumR]; exact (sumR_z n 0 (fun _ _ _ => rfl)).symm
  | succ m ih =>
    rw [sumR_l, ih, ← sumR_add]
    refine sumR_c n 0 fun i _ _ => ?_
    rw [sumR_l]
theorem sc_ex {a b : Nat} {no un : Nat → Nat} (hq : ∀ h s, a.testBit h = true → b.testBit s = true → ((no h).testBit s = true ↔ (un s).testBit h = true)) : sumR (fun h => if a.testBit h = true then pcn (no h &&& b) else 0) 0 16 = sc (fun s => pcn (a &&& un s)) b := by
  have e1 : sumR (fun h => if a.testBit h = true then pcn (no h &&& b) else 0) 0 16 = sumR (fun h => sumR (fun s => if a.testBit h = true ∧ b.testBit s = true ∧ (un s).testBit h = true then 1 else 0) 0 16) 0 16 := by
    refine sumR_c 16 0 fun h _ _ => ?_
    by_cases q : a.testBit h = true
    · rw [if_pos q]
      unfold pcn
      rw [← sumB]
      refine sumR_c 16 0 fun s _ _ => ?_
      by_cases r : b.testBit s = true
      · by_cases t : (un s).testBit h = true
        · rw [if_pos (and_bit.mpr ⟨(hq h s q r).mpr t, r⟩), if_pos ⟨q, r, t⟩]
        · rw [if_neg (fun e => t ((hq h s q r).mp (and_bit.mp e).1)), if_neg (fun e => t e.2.2)]
      · rw [if_neg (fun e => r (and_bit.mp e).2), if_neg (fun e => r e.2.1)]
    · rw [if_neg q]
      exact (sumR_z 16 0 (fun s _ _ => if_neg (fun e => q e.1))).symm
  rw [e1, sumR_ex]
  unfold sc
  refine sumR_c 16 0 fun s _ _ => ?_
  by_cases r : b.testBit s = true
  · rw [if_pos r]
    show _ = pcf 16 (a &&& un s)
    rw [← sumB]
    refine sumR_c 16 0 fun h _ _ => ?_
    by_cases q : a.testBit h = true ∧ (un s).testBit h = true
    · rw [if_pos ⟨q.1, r, q.2⟩, if_pos (and_bit.mpr q)]
    · rw [if_neg (fun e => q ⟨e.1, e.2.2⟩), if_neg (fun e => q (and_bit.mp e))]
  · rw [if_neg r]
    exact sumR_z 16 0 (fun h _ _ => if_neg (fun e => r e.2.1))
theorem or_bit2 (x s t : Nat) : (x ||| 2 ^ s).testBit t = true ↔ x.testBit t = true ∨ s = t := by
  rw [Nat.testBit_or, pow_tb, Bool.or_eq_true, decide_eq_true_iff]
theorem sc_set (hs : s < 16) (hx : ¬ x.testBit s = true) : sc w (x ||| 2 ^ s) = sc w x + w s := by
  refine sum_one (o := s) (fun t ht => ?_) ?_ 16 hs
  · by_cases q : x.testBit t = true
    · rw [if_pos q, if_pos ((or_bit2 x s t).mpr (Or.inl q))]
    · rw [if_neg q, if_neg (fun e => ((or_bit2 x s t).mp e).elim q (fun e => ht e.symm))]
  · rw [if_neg hx, if_pos ((or_bit2 x s s).mpr (Or.inr rfl)), Nat.zero_add]
theorem pcn_set (hs : s < 16) (hx : ¬ x.testBit s = true) : pcn (x ||| 2 ^ s) = pcn x + 1 := by
  unfold pcn
  rw [← sumB, ← sumB]
  exact sc_set (w := fun _ => 1) hs hx
theorem pcf_and_le : ∀ n a b, pcf n (a &&& b) ≤ pcf n a := by
  intro n
  induction n with
  | zero => intro a b; exact Nat.le_refl _
  | succ n ih =>
    intro a b
    have e := ih (a / 2) (b / 2)
    have st := and_step a b
    have m1 : a % 2 * (b % 2) ≤ a % 2 := by
      rcases Nat.mod_two_eq_zero_or_one b with p | p <;> rw [p] <;> omega
    rw [pcf, pcf, show (a &&& b) / 2 = a / 2 &&& b / 2 from Nat.and_div_two]
    generalize a % 2 * (b % 2) = y at *
    omega
/-- the springs chosen so far: those with more pairs than v, and those of v before s -/
def GI (w : Nat → Nat) (B k v s pr ch lf : Nat) : Prop := ch < 2 ^ 16 ∧ pcn ch + lf = k ∧ pr = sc w ch ∧ ∃ v' s', s' ≤ 16 ∧ (0 < lf → v' = v ∧ s' = s) ∧ ∀ t, t < 16 → (ch.testBit t = true ↔ B.testBit t = true ∧ (v' < w t ∨ (w t = v' ∧ t < s')))
theorem GI_take {pr ch lf : Nat} (hG : GI w B k v s pr ch (lf + 1)) (hs : s < 16) (hB : B.testBit s = true) (hw : w s = v) : GI w B k v (s + 1) (pr + v) (ch ||| 2 ^ s) lf := by
  obtain ⟨g1, g2, g3, v', s', g4, g5, g6⟩ := hG
  obtain ⟨rfl, rfl⟩ := g5 (by omega)
  have nb : ¬ ch.testBit s' = true := fun q => by
    have := ((g6 s' hs).mp q).2
    omega
  refine ⟨Nat.or_lt_two_pow g1 (Nat.pow_lt_pow_right (by decide) hs), by rw [pcn_set hs nb]; omega, by rw [sc_set hs nb, g3, hw], v', s' + 1, by omega, fun _ => ⟨rfl, rfl⟩, fun t ht => ?_⟩
  rw [or_bit2, g6 t ht]
  constructor
  · rintro (⟨q1, q2⟩ | q)
    · exact ⟨q1, by omega⟩
    · subst q
      exact ⟨hB, Or.inr ⟨hw, by omega⟩⟩
  · rintro ⟨q1, q2⟩
    by_cases e : s' = t
    · exact Or.inr e
    · exact Or.inl ⟨q1, by omega⟩
theorem GI_skip {pr ch lf : Nat} (hG : GI w B k v s pr ch lf) (hs : s < 16) (hn : ¬ (B.testBit s = true ∧ w s = v)) : GI w B k v (s + 1) pr ch lf := by
  obtain ⟨g1, g2, g3, v', s', g4, g5, g6⟩ := hG
  by_cases q : 0 < lf
  · obtain ⟨rfl, rfl⟩ := g5 q
    refine ⟨g1, g2, g3, v', s' + 1, by omega, fun _ => ⟨rfl, rfl⟩, fun t ht => ?_⟩
    rw [g6 t ht]
    constructor
    · rintro ⟨q1, q2⟩
      exact ⟨q1, by omega⟩
    · rintro ⟨q1, q2⟩
      refine ⟨q1, ?_⟩
      by_cases e : t = s'
      · subst e
        rcases q2 with q2 | q2
        · exact Or.inl q2
        · exact absurd ⟨q1, q2.1⟩ hn
      · omega
  · exact ⟨g1, g2, g3, v', s', g4, fun e => absurd e q, g6⟩
theorem GI_0 {pr ch : Nat} (hG : GI w B k v s pr ch 0) (v1 s1 : Nat) : GI w B k v1 s1 pr ch 0 := by
  obtain ⟨g1, g2, g3, v', s', g4, g5, g6⟩ := hG
  exact ⟨g1, g2, g3, v', s', g4, fun e => absurd e (by decide), g6⟩
theorem GI_down {pr ch lf : Nat} (hG : GI w B k (v + 1) 16 pr ch lf) : GI w B k v 0 pr ch lf := by
  obtain ⟨g1, g2, g3, v', s', g4, g5, g6⟩ := hG
  by_cases q : 0 < lf
  · obtain ⟨rfl, rfl⟩ := g5 q
    refine ⟨g1, g2, g3, v, 0, by omega, fun _ => ⟨rfl, rfl⟩, fun t ht => ?_⟩
    rw [g6 t ht]
    constructor
    · rintro ⟨q1, q2⟩
      exact ⟨q1, by omega⟩
    · rintro ⟨q1, q2⟩
      exact ⟨q1, by omega⟩
  · exact ⟨g1, g2, g3, v', s', g4, fun e => absurd e q, g6⟩
theorem pcn_mono {x y : Nat} (h : ∀ t, t < 16 → y.testBit t = true → x.testBit t = true) : pcn y ≤ pcn x := by
  unfold pcn
  rw [← sumB, ← sumB, sumR_c (g := fun t => if y.testBit t = true ∧ t < 16 then 1 else 0) 16 0 (fun t _ ht => ?_)]
  · refine sumR_le (fun t => ?_) 16 0
    by_cases q : y.testBit t = true ∧ t < 16
    · rw [if_pos q, if_pos (h t q.2 q.1)]; exact Nat.le_refl _
    · rw [if_neg q]; exact Nat.zero_le _
  · by_cases q : y.testBit t = true
    · rw [if_pos q, if_pos ⟨q, by omega⟩]
    · rw [if_neg q, if_neg (fun e => q e.1)]
theorem GI_end {pr ch lf : Nat} (hG : GI w B k 0 16 pr ch lf) (hk : k ≤ pcn B) : lf = 0 := by
  obtain ⟨g1, g2, g3, v', s', g4, g5, g6⟩ := hG
  by_cases q : 0 < lf
  · obtain ⟨rfl, rfl⟩ := g5 q
    have := pcn_mono (x := ch) (y := B) (fun t ht hB => (g6 t ht).mpr ⟨hB, by omega⟩)
    omega
  · omega
end W02
