/-! the row's parts: what each relation hangs on -/
section ZC
variable {TX : Nat → Nat → (Nat → Nat) → Z1 → Prop} {h : mh_H} {G G' : F2} {C C' : C2} {Z Z' : Z1} {w b k M u : Nat}
theorem B_jnt.zc (hR : B_jnt Z) (hc : Z 1 ≤ 16) (h1 : Z' 1 = Z 1) (hJ : ∀ k, 44 ≤ k → k < 220 → Z' k = Z k) (hO : ∀ k, 5380 ≤ k → k < 6916 → Z' k = Z k) : B_jnt Z' := by
  obtain ⟨a, b, c⟩ := hR
  refine ⟨fun j hj => ?_, fun j q1 q2 k hk => ?_, fun j q1 q2 k hk => ?_⟩
  · rw [h1] at hj
    have := a j hj
    rw [hJ _ (by omega) (by omega), hJ _ (by omega) (by omega), hJ _ (by omega) (by omega), hJ _ (by omega) (by omega)]
    exact this
  · rw [h1] at q1
    rw [hJ _ (by omega) (by omega)]
    exact b j q1 q2 k hk
  · rw [h1] at q1
    rw [hO _ (by omega) (by omega)]
    exact c j q1 q2 k hk
theorem B_way.zc (hR : B_way Z) (hc : Z 1 ≤ 16) (hc2 : Z 2 ≤ 24) (h1 : Z' 1 = Z 1) (h2 : Z' 2 = Z 2) (hJ : ∀ k, 44 ≤ k → k < 220 → Z' k = Z k) (hW : ∀ i, i < 24 → ∀ k, k < 215 → k < 5 ∨ Z 2 ≤ i → Z' (220 + 215 * i + k) = Z (220 + 215 * i + k)) : B_way Z' := by
  obtain ⟨a, b⟩ := hR
  refine ⟨fun i hi => ?_, fun i q1 q2 k hk => ?_⟩
  · rw [h2] at hi
    obtain ⟨a1, a2, a3, a4, a5, a6, a7, a8⟩ := a i hi
    have e0 := hW i (by omega) 0 (by decide) (Or.inl (by decide))
    have e1 := hW i (by omega) 1 (by decide) (Or.inl (by decide))
    have e2 := hW i (by omega) 2 (by decide) (Or.inl (by decide))
    have e3 := hW i (by omega) 3 (by decide) (Or.inl (by decide))
    have e4 := hW i (by omega) 4 (by decide) (Or.inl (by decide))
    rw [show 220 + 215 * i + 0 = 220 + 215 * i by omega] at e0
    rw [show 220 + 215 * i + 1 = 221 + 215 * i by omega] at e1
    rw [show 220 + 215 * i + 2 = 222 + 215 * i by omega] at e2
    rw [show 220 + 215 * i + 3 = 223 + 215 * i by omega] at e3
    rw [show 220 + 215 * i + 4 = 224 + 215 * i by omega] at e4
    rw [e0, e1, e2, e3, e4, h1, hJ (44 + 11 * Z (221 + 215 * i)) (by omega) (by omega), hJ (44 + 11 * Z (222 + 215 * i)) (by omega) (by omega), hJ (46 + 11 * Z (221 + 215 * i)) (by omega) (by omega), hJ (46 + 11 * Z (222 + 215 * i)) (by omega) (by omega)]
    exact ⟨a1, a2, a3, a4, a5, a6, a7, a8⟩
  · rw [h2] at q1
    rw [hW i q2 k hk (Or.inr q1)]
    exact b i q1 q2 k hk
theorem B_put.zc (hR : B_put Z) (hc : Z 1 ≤ 16) (hc3 : Z 3 ≤ 40) (h0 : Z 0 ≤ Z' 0) (h1 : Z' 1 = Z 1) (h3 : Z' 3 = Z 3) (hJ : ∀ k, 44 ≤ k → k < 220 → Z' k = Z k) (hP : ∀ k, 6916 ≤ k → k < 7076 → Z' k = Z k) : B_put Z' := by
  obtain ⟨a, b⟩ := hR
  refine ⟨fun p hp => ?_, fun p q1 q2 k hk => ?_⟩
  · rw [h3] at hp
    obtain ⟨a1, a2, a3, a4, a5⟩ := a p hp
    rw [hP (6916 + 4 * p) (by omega) (by omega), hP (6917 + 4 * p) (by omega) (by omega), hP (6918 + 4 * p) (by omega) (by omega), hP (6919 + 4 * p) (by omega) (by omega), h1, hJ _ (by omega) (by omega)]
    exact ⟨a1, a2, a3, a4, by omega⟩
  · rw [h3] at q1
    rw [hP _ (by omega) (by omega)]
    exact b p q1 q2 k hk
theorem B_look.zc (hR : B_look Z) (hc : Z 1 ≤ 16) (hc4 : Z 4 ≤ 60) (h0 : Z 0 ≤ Z' 0) (h1 : Z' 1 = Z 1) (h3 : Z 3 ≤ Z' 3) (h4 : Z' 4 = Z 4) (hJ : ∀ k, 44 ≤ k → k < 220 → Z' k = Z k) (hL : ∀ k, 7076 ≤ k → k < 7556 → Z' k = Z k) (hP : ∀ k, 6916 ≤ k → k < 6916 + 4 * Z 3 → Z' k = Z k) : B_look Z' := by
  obtain ⟨a, b⟩ := hR
  refine ⟨fun l hl => ?_, fun l q1 q2 k hk => ?_⟩
  · rw [h4] at hl
    obtain ⟨a1, a2, a3, a4, a5, a6, a7, a8, a9⟩ := a l hl
    rw [hL (7076 + 8 * l) (by omega) (by omega), hL (7077 + 8 * l) (by omega) (by omega), hL (7078 + 8 * l) (by omega) (by omega), hL (7079 + 8 * l) (by omega) (by omega), hL (7080 + 8 * l) (by omega) (by omega), hL (7081 + 8 * l) (by omega) (by omega), hL (7082 + 8 * l) (by omega) (by omega), h1, hJ _ (by omega) (by omega)]
    refine ⟨a1, a2, a3, by omega, a5, a6, a7, by omega, fun q => ?_⟩
    obtain ⟨p, hp, e⟩ := a9 q
    exact ⟨p, hp, by rw [hP _ (by omega) (by omega)]; exact e⟩
  · rw [h4] at q1
    rw [hL _ (by omega) (by omega)]
    exact b l q1 q2 k hk
theorem thL_mem {t i : Nat} (ht : t < 5) (h : i ∈ thL t) : 44 ≤ i ∧ i < 5380 := by
  unfold thL at h
  rcases List.mem_append.mp h with h | h
  · obtain ⟨j, hj, rfl⟩ := List.mem_map.mp h
    have := List.mem_range.mp hj
    split <;> omega
  · obtain ⟨a, ha, h⟩ := List.mem_flatMap.mp h
    have := List.mem_range.mp ha
    rcases List.mem_cons.mp h with rfl | h
    · omega
    · obtain ⟨k, hk, rfl⟩ := List.mem_map.mp h
      have := List.mem_range.mp hk
      omega
theorem tot.zc {t : Nat} (ht : t < 5) (hB : ∀ k, 44 ≤ k → k < 5380 → Z' k = Z k) : tot Z' t = tot Z t := by
  unfold tot
  congr 1
  exact List.map_congr_left fun i hi => hB i (thL_mem ht hi).1 (thL_mem ht hi).2
theorem B_sum.zc (hR : B_sum Z) (h0 : Z 0 ≤ Z' 0) (h3 : Z 3 ≤ Z' 3) (hB : ∀ k, 44 ≤ k → k < 5380 → Z' k = Z k) : B_sum Z' := by
  obtain ⟨a, b⟩ := hR
  refine ⟨?_, fun c hc => ?_⟩
  · rw [tot.zc (by decide) hB]; omega
  · rw [tot.zc (by omega) hB]; have := b c hc; omega
theorem B_none.zc (hR : B_none Z) (hc3 : Z 3 ≤ 40) (h3 : Z' 3 = Z 3) (hB : ∀ k, 44 ≤ k → k < 5380 → Z' k = Z k) (hO : ∀ k, 5380 ≤ k → k < 6916 → Z' k = Z k) (hP : ∀ k, 6916 ≤ k → k < 7076 → Z' k = Z k) : B_none Z' := by
  intro c hc hp
  have := hR c hc (fun p q => by
    have := hp p (by omega)
    rwa [hP _ (by omega) (by omega)] at this)
  refine ⟨by rw [tot.zc (by omega) hB]; exact this.1, fun j hj r hr => ?_⟩
  rw [hO _ (by omega) (by omega)]
  exact this.2 j hj r hr
theorem R_jnt.zc (hR : R_jnt C Z w) (h1 : Z' 1 = Z 1) (h2 : Z' 2 = Z 2) (hJ : ∀ k, 44 ≤ k → k < 220 → Z' k = Z k) : R_jnt C Z' w := by
  obtain ⟨a, b, c, d, e⟩ := hR
  refine ⟨by rw [h1]; exact a, by rw [h2]; exact b, fun j hj => ?_, d, fun j hj => ?_⟩
  · rw [hJ _ (by omega) (by omega), hJ _ (by omega) (by omega), hJ _ (by omega) (by omega)]; exact c j hj
  · rw [hJ _ (by omega) (by omega)]; exact e j hj
theorem R_way.zc (hR : R_way h G Z w) (h2 : Z' 2 = Z 2) (hW : ∀ i, i < 24 → ∀ k, k < 5 → Z' (220 + 215 * i + k) = Z (220 + 215 * i + k)) : R_way h G Z' w := fun i hi => by
  obtain ⟨p, a1, a2, a3, a4, a5⟩ := hR i hi
  refine ⟨p, a1, a2, a3, a4, fun q => ?_⟩
  rw [h2] at q
  have e0 := hW i hi 0 (by decide)
  have e1 := hW i hi 1 (by decide)
  have e2 := hW i hi 2 (by decide)
  have e3 := hW i hi 3 (by decide)
  have e4 := hW i hi 4 (by decide)
  rw [show 220 + 215 * i + 0 = 220 + 215 * i by omega] at e0
  rw [show 220 + 215 * i + 1 = 221 + 215 * i by omega] at e1
  rw [show 220 + 215 * i + 2 = 222 + 215 * i by omega] at e2
  rw [show 220 + 215 * i + 3 = 223 + 215 * i by omega] at e3
  rw [show 220 + 215 * i + 4 = 224 + 215 * i by omega] at e4
  rw [e0, e1, e2, e3, e4]
  exact a5 q
theorem R_look.zc (hR : R_look C Z k) (h3 : Z' 3 = Z 3) (h4 : Z' 4 = Z 4) (hP : ∀ k, 6916 ≤ k → k < 7076 → Z' k = Z k) (hL : ∀ k, 7076 ≤ k → k < 7556 → Z' k = Z k) (hc3 : Z 3 ≤ 40) (hc4 : Z 4 ≤ 60) (hB : B_look Z) : R_look C Z' k := by
  obtain ⟨a, b, c, d⟩ := hR
  have hz : ∀ (c n : Nat), n ≤ 40 → holesZ Z' c n = holesZ Z c n := by
    intro c n
    induction n with
    | zero => intro _; rfl
    | succ n ih =>
      intro hn
      unfold holesZ
      rw [hP _ (by omega) (by omega), hP _ (by omega) (by omega), ih (by omega)]
  refine ⟨by rw [h3]; exact a, by rw [h4]; exact b, fun p hp q hq => by rw [hP _ (by omega) (by omega)]; exact c p hp q hq, fun l hl => ?_⟩
  obtain ⟨d1, d2, d3⟩ := d l hl
  refine ⟨fun q hq => by rw [hL _ (by omega) (by omega)]; exact d1 q hq, by rw [hL _ (by omega) (by omega)]; exact d2, fun q => ?_⟩
  rw [h4] at q
  have := (hB.1 l q).2.2.2.2.2.2.2.1
  rw [hL _ (by omega) (by omega), hL _ (by omega) (by omega), hz _ _ (by omega)]
  exact d3 q
end ZC
