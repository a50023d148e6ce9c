section P02
variable {h : mh_H} {b n : Nat} {G F0 : F2} {C C' : C2} {Z Z' Z'' : Z1} {T τ T' τ' : Nat → Nat}
theorem HR_of (h2 : Z 2 ≤ 24) (hw : R_wat C Z b) (hi : R_ins C Z b) : HR b (Z 2) (tk Z) (fun _ => Z 0) C Z := by
  obtain ⟨w0, w1, w2, w3, w4, w5, w6⟩ := hw
  refine ⟨fun a i z h => ?_, fun z h => ?_, fun i h => ?_⟩
  · rcases h with ⟨e1, e2, e3⟩ | ⟨e1, e2, e3⟩ | ⟨e1, e2, e3⟩ | ⟨c, c1, e1, e2, e3⟩ | ⟨c, k, c1, k1, k2, e1, e2, e3⟩ | ⟨j, j1, e1, e2, e3⟩ | ⟨j, c, j1, c1, e1, e2, e3⟩ | ⟨w, t, x1, t1, e1, e2, e3⟩ | ⟨j, j1, e1, e2, e3⟩ | ⟨j, j1, e1, e2, e3⟩ | ⟨j, c, r, j1, c1, r1, e1, e2, e3⟩ | ⟨w, t, s, q, x1, t1, ⟨k, k1, k2, k3, k4⟩, e1, e2, e3⟩
    · rw [e1, e2, e3]; exact w0
    · rw [e1, e2, e3]; exact w1
    · rw [e1, e2, e3]; exact w2
    · rw [e1, e2, e3]; exact w3 c c1
    · rw [e1, e2, e3]; exact w4 c c1 k k1 k2
    · rw [e1, e2, e3]; exact (w5 j j1).1
    · rw [e1, e2, e3]; exact (w5 j j1).2.1 c c1
    · rw [e1, e2, e3]; exact w6 w x1 t t1
    · rw [e1, e2, e3]; exact (w5 j j1).2.2.1
    · rw [e1, e2, e3]; exact (w5 j j1).2.2.2.1
    · rw [e1, e2, e3]; exact (w5 j j1).2.2.2.2 c c1 r r1
    · rw [e1, e2, e3, k3, k4]; exact ((hi w (by omega) t t1).1 x1).1 k k1 k2
  · obtain ⟨w, t, q, x1, t1, q1, hn, e⟩ := h
    rw [e]
    exact ((hi w (by omega) t t1).1 x1).2.2 q q1 (fun k k1 k2 e => hn _ ⟨k, k1, k2, rfl, e⟩)
  · obtain ⟨w, t, s, x1, t1, s1, hn, e⟩ := h
    rw [e]
    by_cases q : w < Z 2
    · rcases hn with hn | hn
      · omega
      · exact ((hi w x1 t t1).1 q).2.1 s hn s1
    · exact (hi w x1 t t1).2 (by omega) s s1
theorem HR_to (hT : Tb (Z 2) (tk Z)) (hR : HR b (Z 2) (tk Z) (fun _ => Z 0) C Z) : R_wat C Z b ∧ R_ins C Z b := by
  obtain ⟨r1, r2, r3⟩ := hR
  refine ⟨⟨?_, ?_, ?_, fun c hc => ?_, fun c hc k hk k1 => ?_, fun j hj => ⟨?_, fun c hc => ?_, ?_, ?_, fun c hc r hr => ?_⟩, fun w hw t ht => ?_⟩, fun w hw t ht => ⟨fun q => ⟨fun k k1 k2 => ?_, fun r q1 q2 => ?_, fun q' q1 q2 => ?_⟩, fun q r q1 => ?_⟩⟩
  · exact r1 _ _ _ (Or.inl ⟨rfl, rfl, rfl⟩)
  · exact r1 _ _ _ (Or.inr (Or.inl ⟨rfl, rfl, rfl⟩))
  · exact r1 _ _ _ (Or.inr (Or.inr (Or.inl ⟨rfl, rfl, rfl⟩)))
  · exact r1 _ _ _ (Or.inr (Or.inr (Or.inr (Or.inl ⟨c, hc, rfl, rfl, rfl⟩))))
  · exact r1 _ _ _ (Or.inr (Or.inr (Or.inr (Or.inr (Or.inl ⟨c, k, hc, hk, k1, rfl, rfl, rfl⟩)))))
  · exact r1 _ _ _ (Or.inr (Or.inr (Or.inr (Or.inr (Or.inr (Or.inl ⟨j, hj, rfl, rfl, rfl⟩))))))
  · exact r1 _ _ _ (Or.inr (Or.inr (Or.inr (Or.inr (Or.inr (Or.inr (Or.inl ⟨j, c, hj, hc, rfl, rfl, rfl⟩)))))))
  · exact r1 _ _ _ (Or.inr (Or.inr (Or.inr (Or.inr (Or.inr (Or.inr (Or.inr (Or.inr (Or.inl ⟨j, hj, rfl, rfl, rfl⟩)))))))))
  · exact r1 _ _ _ (Or.inr (Or.inr (Or.inr (Or.inr (Or.inr (Or.inr (Or.inr (Or.inr (Or.inr (Or.inl ⟨j, hj, rfl, rfl, rfl⟩))))))))))
  · exact r1 _ _ _ (Or.inr (Or.inr (Or.inr (Or.inr (Or.inr (Or.inr (Or.inr (Or.inr (Or.inr (Or.inr (Or.inl ⟨j, c, r, hj, hc, hr, rfl, rfl, rfl⟩)))))))))))
  · exact r1 _ _ _ (Or.inr (Or.inr (Or.inr (Or.inr (Or.inr (Or.inr (Or.inr (Or.inl ⟨w, t, hw, ht, rfl, rfl, rfl⟩))))))))
  · exact r1 _ _ _ (Or.inr (Or.inr (Or.inr (Or.inr (Or.inr (Or.inr (Or.inr (Or.inr (Or.inr (Or.inr (Or.inr ⟨w, t, _, _, q, ht, ⟨k, k1, k2, rfl, rfl⟩, rfl, rfl, rfl⟩)))))))))))
  · exact r3 _ ⟨w, t, r, hw, ht, q2, Or.inr q1, rfl⟩
  · exact r2 _ ⟨w, t, q', q, ht, q1, fun s ⟨k, k1, k2, _, k4⟩ => q2 k k1 k2 k4, rfl⟩
  · exact r3 _ ⟨w, t, r, hw, ht, q1, Or.inl q, rfl⟩
theorem HR.cg (hR : HR b n T τ C Z) (hq : ∀ w, w < n → T' w = T w ∧ τ' w = τ w) : HR b n T' τ' C Z := by
  obtain ⟨r1, r2, r3⟩ := hR
  refine ⟨fun a i z h => ?_, fun z h => ?_, fun i h => ?_⟩
  · apply r1 a i z
    rcases h with h | h | h | h | h | h | h | h | h | h | h | ⟨w, t, s, q, w1, t1, q1, h⟩
    · exact Or.inl h
    · exact Or.inr (Or.inl h)
    · exact Or.inr (Or.inr (Or.inl h))
    · exact Or.inr (Or.inr (Or.inr (Or.inl h)))
    · exact Or.inr (Or.inr (Or.inr (Or.inr (Or.inl h))))
    · exact Or.inr (Or.inr (Or.inr (Or.inr (Or.inr (Or.inl h)))))
    · exact Or.inr (Or.inr (Or.inr (Or.inr (Or.inr (Or.inr (Or.inl h))))))
    · exact Or.inr (Or.inr (Or.inr (Or.inr (Or.inr (Or.inr (Or.inr (Or.inl h)))))))
    · exact Or.inr (Or.inr (Or.inr (Or.inr (Or.inr (Or.inr (Or.inr (Or.inr (Or.inl h))))))))
    · exact Or.inr (Or.inr (Or.inr (Or.inr (Or.inr (Or.inr (Or.inr (Or.inr (Or.inr (Or.inl h)))))))))
    · exact Or.inr (Or.inr (Or.inr (Or.inr (Or.inr (Or.inr (Or.inr (Or.inr (Or.inr (Or.inr (Or.inl h))))))))))
    · rw [(hq w w1).1, (hq w w1).2] at q1
      exact Or.inr (Or.inr (Or.inr (Or.inr (Or.inr (Or.inr (Or.inr (Or.inr (Or.inr (Or.inr (Or.inr ⟨w, t, s, q, w1, t1, q1, h⟩))))))))))
  · obtain ⟨w, t, q, w1, t1, q1, q2, e⟩ := h
    rw [(hq w w1).1, (hq w w1).2] at q2
    exact r2 z ⟨w, t, q, w1, t1, q1, q2, e⟩
  · obtain ⟨w, t, s, w1, t1, s1, q2, e⟩ := h
    refine r3 i ⟨w, t, s, w1, t1, s1, ?_, e⟩
    by_cases q : n ≤ w
    · exact Or.inl q
    · rw [(hq w (by omega)).1] at q2; exact q2
/-- way w has let out what was due: its window moves on -/
theorem HR.sh (hT : Tb n T) (hR : HR b n T τ C Z) {w now : Nat} (hw : w < n) (hτ : τ w = now) (h0 : ∀ t, t < 5 → Z (230 + 215 * w + 5 * ((now + 410 - T w) % 41) + t) = 0) : HR b n T (fun x => if x = w then now + 1 else τ x) C Z := by
  obtain ⟨t1, t2⟩ := hT.2 w hw
  obtain ⟨r1, r2, r3⟩ := hR
  refine ⟨fun a i z h => ?_, fun z h => ?_, r3⟩
  · rcases h with h | h | h | h | h | h | h | h | h | h | h | ⟨w', t, s, q, w1, tt, q1, e1, e2, e3⟩
    · exact r1 a i z (Or.inl h)
    · exact r1 a i z (Or.inr (Or.inl h))
    · exact r1 a i z (Or.inr (Or.inr (Or.inl h)))
    · exact r1 a i z (Or.inr (Or.inr (Or.inr (Or.inl h))))
    · exact r1 a i z (Or.inr (Or.inr (Or.inr (Or.inr (Or.inl h)))))
    · exact r1 a i z (Or.inr (Or.inr (Or.inr (Or.inr (Or.inr (Or.inl h))))))
    · exact r1 a i z (Or.inr (Or.inr (Or.inr (Or.inr (Or.inr (Or.inr (Or.inl h)))))))
    · exact r1 a i z (Or.inr (Or.inr (Or.inr (Or.inr (Or.inr (Or.inr (Or.inr (Or.inl h))))))))
    · exact r1 a i z (Or.inr (Or.inr (Or.inr (Or.inr (Or.inr (Or.inr (Or.inr (Or.inr (Or.inl h)))))))))
    · exact r1 a i z (Or.inr (Or.inr (Or.inr (Or.inr (Or.inr (Or.inr (Or.inr (Or.inr (Or.inr (Or.inl h))))))))))
    · exact r1 a i z (Or.inr (Or.inr (Or.inr (Or.inr (Or.inr (Or.inr (Or.inr (Or.inr (Or.inr (Or.inr (Or.inl h)))))))))))
    · by_cases ew : w' = w
      · subst ew
        dsimp only at q1
        rw [if_pos rfl] at q1
        obtain ⟨k, k1, k2, k3, k4⟩ := q1
        by_cases ek : k = 1
        · have hold : C a i = Z (230 + 215 * w' + 5 * ((now + 410 - T w') % 41) + t) := r1 _ _ _ (Or.inr (Or.inr (Or.inr (Or.inr (Or.inr (Or.inr (Or.inr (Or.inr (Or.inr (Or.inr (Or.inr ⟨w', t, s, (now + 410 - T w') % 41, w1, tt, ⟨T w', t1, Nat.le_refl _, by
            rw [hτ, k3, ek, show now + 1 + 40 * T w' - 1 = now + 40 * T w' - T w' + T w' by omega, Nat.add_mod_right], by rw [hτ]⟩, e1, e2, rfl⟩)))))))))))
          rw [hold, h0 t tt, e3]
          refine (r2 _ ⟨w', t, q, w1, tt, by omega, fun s' ⟨k', a1, a2, a3, a4⟩ => ?_, rfl⟩).symm
          rw [hτ] at a4
          omega
        · refine r1 _ _ _ (Or.inr (Or.inr (Or.inr (Or.inr (Or.inr (Or.inr (Or.inr (Or.inr (Or.inr (Or.inr (Or.inr ⟨w', t, s, q, w1, tt, ⟨k - 1, by omega, by omega, ?_, ?_⟩, e1, e2, e3⟩)))))))))))
          · rw [hτ, k3, show now + 1 + 40 * T w' - k = now + 40 * T w' - (k - 1) by omega]
          · rw [hτ, k4, show now + 1 + 410 - k = now + 410 - (k - 1) by omega]
      · dsimp only at q1
        rw [if_neg ew] at q1
        exact r1 _ _ _ (Or.inr (Or.inr (Or.inr (Or.inr (Or.inr (Or.inr (Or.inr (Or.inr (Or.inr (Or.inr (Or.inr ⟨w', t, s, q, w1, tt, q1, e1, e2, e3⟩)))))))))))
  · obtain ⟨w', t, q, w1, tt, q1, q2, e⟩ := h
    by_cases ew : w' = w
    · subst ew
      dsimp only at q2
      rw [if_pos rfl] at q2
      by_cases qo : ∃ s, SQ (T w') (τ w') s q
      · obtain ⟨s, k, k1, k2, k3, k4⟩ := qo
        rw [hτ] at k3 k4
        by_cases ek : k = T w'
        · rw [e, k4, ek]; exact h0 t tt
        · exact absurd ⟨k + 1, by omega, by omega, rfl, by rw [k4, show now + 410 - k = now + 1 + 410 - (k + 1) by omega]⟩ (q2 ((now + 1 + 40 * T w' - (k + 1)) % T w'))
      · exact r2 z ⟨w', t, q, w1, tt, q1, fun s hq => qo ⟨s, hq⟩, e⟩
    · dsimp only at q2
      rw [if_neg ew] at q2
      exact r2 z ⟨w', t, q, w1, tt, q1, q2, e⟩
/-- places that no HOUR changes, but the clock's -/
def cst (z : Nat) : Prop := z < 8 ∨ (10 ≤ z ∧ z < 16) ∨ (∃ j, j < 16 ∧ (z = 44 + 11 * j ∨ z = 45 + 11 * j ∨ z = 46 + 11 * j ∨ z = 50 + 11 * j)) ∨ (∃ i k, i < 24 ∧ k < 5 ∧ z = 220 + 215 * i + k) ∨ 6916 ≤ z
def SKz (Z Z' : Z1) : Prop := ∀ z, cst z → Z' z = Z z
theorem SKz.refl (Z : Z1) : SKz Z Z := fun _ _ => rfl
theorem SKz.trans (a : SKz Z Z') (c : SKz Z' Z'') : SKz Z Z'' := fun z q => (c z q).trans (a z q)
theorem SKz.up {z x : Nat} (hz : ¬ cst z) : SKz Z (upZ Z z x) := fun z' q => upZ_n (fun e => hz (by rw [← e]; exact q))
theorem SKz.lo (hS : SKz Z Z') {z : Nat} (hz : z < 8) : Z' z = Z z := hS z (Or.inl hz)
theorem SKz.fd (hS : SKz Z Z') {z : Nat} (h1 : 10 ≤ z) (h2 : z < 16) : Z' z = Z z := hS z (Or.inr (Or.inl ⟨h1, h2⟩))
theorem SKz.jn (hS : SKz Z Z') {j : Nat} (hj : j < 16) : Z' (44 + 11 * j) = Z (44 + 11 * j) := hS _ (Or.inr (Or.inr (Or.inl ⟨j, hj, Or.inl rfl⟩)))
theorem SKz.wy (hS : SKz Z Z') {i : Nat} (hi : i < 24) : Z' (220 + 215 * i) = Z (220 + 215 * i) ∧ Z' (221 + 215 * i) = Z (221 + 215 * i) ∧ Z' (222 + 215 * i) = Z (222 + 215 * i) ∧ Z' (223 + 215 * i) = Z (223 + 215 * i) ∧ Z' (224 + 215 * i) = Z (224 + 215 * i) := by
  have e : ∀ k, k < 5 → Z' (220 + 215 * i + k) = Z (220 + 215 * i + k) := fun k hk => hS _ (Or.inr (Or.inr (Or.inr (Or.inl ⟨i, k, hi, hk, rfl⟩))))
  refine ⟨e 0 (by decide), ?_, ?_, ?_, ?_⟩
  · have := e 1 (by decide); rwa [show 220 + 215 * i + 1 = 221 + 215 * i by omega] at this
  · have := e 2 (by decide); rwa [show 220 + 215 * i + 2 = 222 + 215 * i by omega] at this
  · have := e 3 (by decide); rwa [show 220 + 215 * i + 3 = 223 + 215 * i by omega] at this
  · have := e 4 (by decide); rwa [show 220 + 215 * i + 4 = 224 + 215 * i by omega] at this
def KZ (Z : Z1) : Prop := Z 0 ≤ 1100 ∧ Z 1 ≤ 16 ∧ Z 2 ≤ 24 ∧ Z 5 ≤ 1 ∧ (∀ c, c < 4 → Z (10 + c) ≤ 99) ∧ (∀ j, j < Z 1 → Z (44 + 11 * j) ≤ 3) ∧ ∀ i, i < Z 2 → Z (220 + 215 * i) ≤ 5 ∧ Z (221 + 215 * i) < Z 1 ∧ Z (222 + 215 * i) < Z 1 ∧ 1 ≤ Z (223 + 215 * i) ∧ Z (223 + 215 * i) ≤ 20 ∧ 1 ≤ Z (224 + 215 * i) ∧ Z (224 + 215 * i) ≤ 99 ∧ Z (44 + 11 * Z (221 + 215 * i)) ≤ 1 ∧ 1 ≤ Z (44 + 11 * Z (222 + 215 * i))
theorem KZ.of (hB : B_all Z) : KZ Z := by
  obtain ⟨⟨c0, c1, c2, c3, c4, c5, c6, c7, c8⟩, bj, bw, -⟩ := hB
  refine ⟨by omega, c1, c2, c5, c8, fun j hj => (bj.1 j hj).1, fun i hi => ?_⟩
  obtain ⟨a1, a2, a3, ⟨a4, a5⟩, ⟨a6, a7⟩, a8, a9, -⟩ := bw.1 i hi
  exact ⟨a1, a2, a3, a4, a5, a6, a7, a8, a9⟩
theorem KZ.sk (hK : KZ Z) (hS : SKz Z Z') : KZ Z' := by
  obtain ⟨k0, k1, k2, k5, kf, kj, kw⟩ := hK
  have e1 := hS.lo (z := 1) (by decide)
  have e2 := hS.lo (z := 2) (by decide)
  refine ⟨by rw [hS.lo (by decide)]; exact k0, by rw [e1]; exact k1, by rw [e2]; exact k2, by rw [hS.lo (by decide)]; exact k5, fun c hc => by rw [hS.fd (by omega) (by omega)]; exact kf c hc, fun j hj => ?_, fun i hi => ?_⟩
  · rw [e1] at hj
    rw [hS.jn (by omega)]; exact kj j hj
  · rw [e2] at hi
    obtain ⟨a1, a2, a3, a4, a5, a6, a7, a8, a9⟩ := kw i hi
    obtain ⟨w0, w1, w2, w3, w4⟩ := hS.wy (i := i) (by omega)
    rw [w0, w1, w2, w3, w4, e1, hS.jn (by omega), hS.jn (by omega)]
    exact ⟨a1, a2, a3, a4, a5, a6, a7, a8, a9⟩
theorem tk_sk (hS : SKz Z Z') {i : Nat} (hi : i < 24) : tk Z' i = tk Z i := by
  obtain ⟨w0, w1, w2, w3, w4⟩ := hS.wy (i := i) hi
  unfold tk
  rw [w0, w3]
theorem KZ.tb (hK : KZ Z) : Tb (Z 2) (tk Z) := by
  obtain ⟨k0, k1, k2, k5, kf, kj, kw⟩ := hK
  refine ⟨k2, fun w hw => ?_⟩
  obtain ⟨a1, a2, a3, a4, a5, a6, a7, a8, a9⟩ := kw w hw
  unfold tk
  split
  · omega
  · split <;> omega
/-- sums of a thing, place by place -/
def inc : List Nat → Bool
  | [] => true
  | [_] => true
  | a :: b :: l => decide (a < b) && inc (b :: l)
theorem inc_lt : ∀ (l : List Nat) (a : Nat), inc (a :: l) = true → ∀ x ∈ l, a < x := by
  intro l
  induction l with
  | nil => intro a _ x hx; cases hx
  | cons y l ih =>
    intro a h x hx
    rw [inc, Bool.and_eq_true, decide_eq_true_iff] at h
    rcases List.mem_cons.mp hx with rfl | hx
    · exact h.1
    · exact Nat.lt_trans h.1 (ih y h.2 x hx)
theorem inc_tl {l : List Nat} {a : Nat} (h : inc (a :: l) = true) : inc l = true := by
  cases l with
  | nil => rfl
  | cons y l => rw [inc, Bool.and_eq_true] at h; exact h.2
theorem sum_in {z x : Nat} : ∀ l : List Nat, inc l = true → z ∈ l → (l.map (upZ Z z x)).sum + Z z = (l.map Z).sum + x := by
  intro l
  induction l with
  | nil => intro _ h; cases h
  | cons a l ih =>
    intro hi hz
    rw [List.map_cons, List.map_cons, List.sum_cons, List.sum_cons]
    rcases List.mem_cons.mp hz with rfl | hz2
    · rw [upZ_s]
      have : (l.map (upZ Z z x)) = l.map Z := List.map_congr_left fun y hy => upZ_n (by have := inc_lt l z hi y hy; omega)
      rw [this]; omega
    · have ha := inc_lt l a hi z hz2
      rw [upZ_n (by omega)]
      have := ih (inc_tl hi) hz2
      omega
theorem sum_out {z x : Nat} (l : List Nat) (hz : z ∉ l) : (l.map (upZ Z z x)).sum = (l.map Z).sum := by
  congr 1
  exact List.map_congr_left fun y hy => upZ_n (fun e => hz (by rw [← e]; exact hy))
theorem le_sum {z : Nat} : ∀ l : List Nat, z ∈ l → Z z ≤ (l.map Z).sum := by
  intro l
  induction l with
  | nil => intro h; cases h
  | cons a l ih =>
    intro hz
    rw [List.map_cons, List.sum_cons]
    rcases List.mem_cons.mp hz with rfl | hz
    · omega
    · have := ih hz; omega
set_option maxRecDepth 100000 in
theorem thL_inc {t : Nat} (ht : t < 5) : inc (thL t) = true := by
  rcases (show t = 0 ∨ t = 1 ∨ t = 2 ∨ t = 3 ∨ t = 4 by omega) with rfl | rfl | rfl | rfl | rfl
  · decide +kernel
  · decide +kernel
  · decide +kernel
  · decide +kernel
  · decide +kernel
def isT (t z : Nat) : Prop := (∃ j, j < 16 ∧ z = if t = 0 then 47 + 11 * j else 50 + 11 * j + t) ∨ (∃ w, w < 24 ∧ z = 225 + 215 * w + t) ∨ ∃ w q, w < 24 ∧ q < 41 ∧ z = 230 + 215 * w + 5 * q + t
theorem thL_iff {t z : Nat} : z ∈ thL t ↔ isT t z := by
  unfold thL isT
  rw [List.mem_append, List.mem_map, List.mem_flatMap]
  constructor
  · rintro (⟨j, hj, e⟩ | ⟨w, hw, h⟩)
    · exact Or.inl ⟨j, List.mem_range.mp hj, e.symm⟩
    · rcases List.mem_cons.mp h with e | h
      · exact Or.inr (Or.inl ⟨w, List.mem_range.mp hw, e⟩)
      · obtain ⟨q, hq, e⟩ := List.mem_map.mp h
        exact Or.inr (Or.inr ⟨w, q, List.mem_range.mp hw, List.mem_range.mp hq, e.symm⟩)
  · rintro (⟨j, hj, e⟩ | ⟨w, hw, e⟩ | ⟨w, q, hw, hq, e⟩)
    · exact Or.inl ⟨j, List.mem_range.mpr hj, e.symm⟩
    · exact Or.inr ⟨w, List.mem_range.mpr hw, List.mem_cons.mpr (Or.inl e)⟩
    · exact Or.inr ⟨w, List.mem_range.mpr hw, List.mem_cons.mpr (Or.inr (List.mem_map.mpr ⟨q, List.mem_range.mpr hq, e.symm⟩))⟩
theorem tot_in {t z : Nat} (ht : t < 5) (hz : isT t z) (x : Nat) : tot (upZ Z z x) t + Z z = tot Z t + x := sum_in (thL t) (thL_inc ht) (thL_iff.mpr hz)
theorem tot_out {t z : Nat} (hz : ¬ isT t z) (x : Nat) : tot (upZ Z z x) t = tot Z t := sum_out (thL t) (fun e => hz (thL_iff.mp e))
theorem tot_le {t z : Nat} (hz : isT t z) : Z z ≤ tot Z t := le_sum (thL t) (thL_iff.mpr hz)
end P02
