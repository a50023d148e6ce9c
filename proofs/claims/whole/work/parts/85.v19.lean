/-! the world after an hour -/
section P19
variable {h h' : mh_H} {b n N w p now J j c x t A S m o y H : Nat} {G F0 : F2} {C C' C0 : C2} {Z Z' Z'' Z0 : Z1} {T τ T' τ' P P' X X' : Nat → Nat}
def CZ (Z Z' : Z1) : Prop := ∀ z, cst z → z ≠ 0 → Z' z = Z z
theorem CZ.lo (hC : CZ Z Z') {z : Nat} (h1 : 1 ≤ z) (h8 : z < 8) : Z' z = Z z := hC z (Or.inl h8) (by omega)
theorem CZ.fd (hC : CZ Z Z') {z : Nat} (h1 : 10 ≤ z) (h8 : z < 16) : Z' z = Z z := hC z (Or.inr (Or.inl ⟨h1, h8⟩)) (by omega)
theorem CZ.jn (hC : CZ Z Z') (hj : j < 16) : Z' (44 + 11 * j) = Z (44 + 11 * j) ∧ Z' (45 + 11 * j) = Z (45 + 11 * j) ∧ Z' (46 + 11 * j) = Z (46 + 11 * j) ∧ Z' (50 + 11 * j) = Z (50 + 11 * j) := ⟨hC _ (Or.inr (Or.inr (Or.inl ⟨j, hj, by omega⟩))) (by omega), hC _ (Or.inr (Or.inr (Or.inl ⟨j, hj, by omega⟩))) (by omega), hC _ (Or.inr (Or.inr (Or.inl ⟨j, hj, by omega⟩))) (by omega), hC _ (Or.inr (Or.inr (Or.inl ⟨j, hj, by omega⟩))) (by omega)⟩
theorem CZ.wy (hC : CZ Z Z') {i k : Nat} (hi : i < 24) (hk : k < 5) : Z' (220 + 215 * i + k) = Z (220 + 215 * i + k) := hC _ (Or.inr (Or.inr (Or.inr (Or.inl ⟨i, k, hi, hk, rfl⟩)))) (by omega)
theorem CZ.hi (hC : CZ Z Z') {z : Nat} (hz : 6916 ≤ z) : Z' z = Z z := hC _ (Or.inr (Or.inr (Or.inr (Or.inr hz)))) (by omega)
theorem B_hour (hB : B_all Z) (hC : CZ Z Z') (h0 : Z' 0 = Z 0 + 1) (h9 : Z 0 + 1 ≤ 999) (ht0 : tot Z' 0 ≤ tot Z 0 + 15984) (htc : ∀ c, c < 4 → tot Z' (1 + c) ≤ tot Z (1 + c)) (hF : FW (Z 1) (Z 2) Z Z') (ho : ∀ c, c < 4 → tot Z (1 + c) = 0 → oZ c Z → oZ c Z') : B_all Z' := by
  obtain ⟨⟨c0, c1, c2, c3, c4, c5, c6, c7, c8⟩, ⟨j1, j2, j3⟩, ⟨w1, w2⟩, ⟨p1, p2⟩, ⟨l1, l2⟩, ⟨s1, s2⟩, bn⟩ := hB
  have e1 := hC.lo (z := 1) (by decide) (by decide)
  have e2 := hC.lo (z := 2) (by decide) (by decide)
  have e3 := hC.lo (z := 3) (by decide) (by decide)
  have e4 := hC.lo (z := 4) (by decide) (by decide)
  refine ⟨⟨by omega, by omega, by omega, by omega, by omega, by rw [hC.lo (by decide) (by decide)]; exact c5, by rw [hC.lo (by decide) (by decide)]; exact c6, by rw [hC.lo (by decide) (by decide)]; exact c7, fun c hc => by rw [hC.fd (by omega) (by omega)]; exact c8 c hc⟩, ⟨fun j hj => ?_, fun j hj hj2 k hk => ?_, fun j hj hj2 k hk => ?_⟩, ⟨fun i hi => ?_, fun i hi hi2 k hk => ?_⟩, ⟨fun p hp => ?_, fun p hp hp2 k hk => ?_⟩, ⟨fun l hl => ?_, fun l hl hl2 k hk => ?_⟩, ⟨by omega, fun c hc => by have := htc c hc; have := s2 c hc; omega⟩, fun c hc hp => ?_⟩
  · obtain ⟨q1, q2, q3, q4⟩ := hC.jn (j := j) (by omega)
    rw [q1, q2, q3, q4]
    exact j1 j (by omega)
  · rw [hF _ (Or.inl ⟨by omega, by omega⟩)]
    exact j2 j (by omega) hj2 k hk
  · rw [hF _ (Or.inr (Or.inr ⟨by omega, by omega⟩))]
    exact j3 j (by omega) hj2 k hk
  · have hi' : i < Z 2 := by omega
    have q := w1 i hi'
    have y0 := hC.wy (i := i) (k := 0) (by omega) (by decide)
    have y1 := hC.wy (i := i) (k := 1) (by omega) (by decide)
    have y2 := hC.wy (i := i) (k := 2) (by omega) (by decide)
    have y3 := hC.wy (i := i) (k := 3) (by omega) (by decide)
    have y4 := hC.wy (i := i) (k := 4) (by omega) (by decide)
    rw [show 220 + 215 * i + 0 = 220 + 215 * i by omega] at y0
    rw [show 220 + 215 * i + 1 = 221 + 215 * i by omega] at y1
    rw [show 220 + 215 * i + 2 = 222 + 215 * i by omega] at y2
    rw [show 220 + 215 * i + 3 = 223 + 215 * i by omega] at y3
    rw [show 220 + 215 * i + 4 = 224 + 215 * i by omega] at y4
    obtain ⟨f1, f2, f3, f4⟩ := hC.jn (j := Z (221 + 215 * i)) (by omega)
    obtain ⟨g1, g2, g3, g4⟩ := hC.jn (j := Z (222 + 215 * i)) (by omega)
    rw [y0, y1, y2, y3, y4, e1, f1, g1, f3, g3]
    exact q
  · rw [hF _ (Or.inr (Or.inl ⟨by omega, by omega⟩))]
    exact w2 i (by omega) hi2 k hk
  · have q := p1 p (by omega)
    obtain ⟨f1, f2, f3, f4⟩ := hC.jn (j := Z (6916 + 4 * p)) (by omega)
    rw [hC.hi (z := 6916 + 4 * p) (by omega), hC.hi (z := 6917 + 4 * p) (by omega), hC.hi (z := 6918 + 4 * p) (by omega), hC.hi (z := 6919 + 4 * p) (by omega), e1, f1, h0]
    exact ⟨q.1, q.2.1, q.2.2.1, q.2.2.2.1, by omega⟩
  · rw [hC.hi (by omega)]
    exact p2 p (by omega) hp2 k hk
  · obtain ⟨q1, q2, q3, q4, q5, q6, q7, q8, q9⟩ := l1 l (by omega)
    obtain ⟨f1, f2, f3, f4⟩ := hC.jn (j := Z (7076 + 8 * l)) (by omega)
    rw [hC.hi (z := 7076 + 8 * l) (by omega), hC.hi (z := 7077 + 8 * l) (by omega), hC.hi (z := 7078 + 8 * l) (by omega), hC.hi (z := 7079 + 8 * l) (by omega), hC.hi (z := 7080 + 8 * l) (by omega), hC.hi (z := 7081 + 8 * l) (by omega), hC.hi (z := 7082 + 8 * l) (by omega), e1, e3, f1, h0]
    refine ⟨q1, q2, q3, by omega, q5, q6, q7, q8, fun r => ?_⟩
    obtain ⟨p, r1, r2⟩ := q9 r
    exact ⟨p, r1, by rw [hC.hi (by omega)]; exact r2⟩
  · rw [hC.hi (by omega)]
    exact l2 l (by omega) hl2 k hk
  · obtain ⟨n1, n2⟩ := bn c hc (fun p hp2 => by rw [← hC.hi (z := 6917 + 4 * p) (by omega)]; exact hp p (by omega))
    exact ⟨by have := htc c hc; omega, ho c hc n1 n2⟩
theorem R_hour (hTX : TXc TXt) (hR : R_all TXt h G Z C) (hx : RX h h') (hC : CZ Z Z') (h0 : Z' 0 = Z 0 + 1) (h9 : Z 0 + 1 ≤ 999) (ht0 : tot Z' 0 ≤ tot Z 0 + 15984) (htc : ∀ c, c < 4 → tot Z' (1 + c) ≤ tot Z (1 + c)) (hF : FW (Z 1) (Z 2) Z Z') (ho : ∀ c, c < 4 → tot Z (1 + c) = 0 → oZ c Z → oZ c Z') (hK : KZ Z') (hH : HR 6 (Z' 2) (tk Z') (fun _ => Z' 0) C' Z') (hf : ∀ a, a < 6 ∨ 15 < a → a ≠ 73 → (a < 74 ∨ 77 < a) → C' a = C a) : R_all TXt h' G Z' C' := by
  have hB := B_hour hR.2.2.2.2.1.1 hC h0 h9 ht0 htc hF ho
  obtain ⟨t1, t2⟩ := HR_to hK.tb hH
  obtain ⟨r1, r2, r4, r5, hw, Zk, hk, hwk⟩ := hR.rx hx
  obtain ⟨w0, w1, w2, w3, w4, w5, w6, w7, w8, w9⟩ := hw
  obtain ⟨c0, c1, c2, c3, c4, c5, c6, c7, c8⟩ := w0.1
  have f := fun a (ha : a < 6 ∨ 15 < a) (q1 : a ≠ 73) (q2 : a < 74 ∨ 77 < a) => hf a ha q1 q2
  have e1 := hC.lo (z := 1) (by decide) (by decide)
  have e2 := hC.lo (z := 2) (by decide) (by decide)
  refine ⟨?_, ?_, ?_, ?_, ⟨hB, ?_, ?_, t1, t2, ?_, ?_, ?_, ?_, ?_⟩, Zk, hk, hwk.congr (fun a q1 q2 => f a (by omega) (by omega) (by omega)) (fun _ _ => rfl) rfl rfl⟩
  · unfold R_err at r1 ⊢
    rw [f 81 (by omega) (by decide) (by decide)]; exact r1
  · rw [f 0 (by omega) (by decide) (by decide)]; exact r2
  · unfold R_sheet at r4 ⊢
    rw [f 82 (by omega) (by decide) (by decide), f 83 (by omega) (by decide) (by decide)]; exact r4
  · unfold R_trace at r5 ⊢
    rw [f 79 (by omega) (by decide) (by decide), f 80 (by omega) (by decide) (by decide)]; exact r5
  · obtain ⟨q1, q2, q3, q4, q5⟩ := w1.congr (C' := C') (f 1 (by omega) (by decide) (by decide)) (f 2 (by omega) (by decide) (by decide)) (f 3 (by omega) (by decide) (by decide)) (f 4 (by omega) (by decide) (by decide))
    refine ⟨by rw [e1]; exact q1, by rw [e2]; exact q2, fun j hj => ?_, q4, fun j hj => ?_⟩
    · obtain ⟨x1, x2, x3, x4⟩ := hC.jn hj
      rw [x1, x2, x3]; exact q3 j hj
    · rw [(hC.jn hj).2.2.2]; exact q5 j hj
  · exact w2.zc e2 (fun i hi k hk => hC.wy hi hk)
  · exact (w5.zc (hC.lo (by decide) (by decide)) (hC.lo (by decide) (by decide)) (fun k k1 _ => hC.hi k1) (fun k k1 _ => hC.hi (by omega)) c3 c4 w0.2.2.2.2.1).congr (f _ (by omega) (by decide) (by decide)) (f _ (by omega) (by decide) (by decide)) (f _ (by omega) (by decide) (by decide))
  · exact (w6.zc (hC.lo (by decide) (by decide)) c6 (fun k k1 _ => hC.hi (by omega))).congr (f _ (by omega) (by decide) (by decide)) (f _ (by omega) (by decide) (by decide))
  · exact (w7.zc hTX (by decide) (fun k k1 _ => hC.hi (by omega))).congr (f _ (by omega) (by decide) (by decide)) (f _ (by omega) (by decide) (by decide))
  · exact (w8.zc hTX (by decide) (fun k k1 _ => hC.hi (by omega))).congr (f _ (by omega) (by decide) (by decide)) (f _ (by omega) (by decide) (by decide))
  · exact (w9.zc (hC.lo (by decide) (by decide))).congr (f _ (by omega) (by decide) (by decide)) rfl rfl
end P19
