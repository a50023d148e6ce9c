section ZC2
variable {TX : Nat → Nat → (Nat → Nat) → Z1 → Prop} {h : mh_H} {G G' : F2} {C C' : C2} {Z Z' : Z1} {w b k M u : Nat}
/-- what a text tells hangs on its own part of the row -/
def TXc (TX : Nat → Nat → (Nat → Nat) → Z1 → Prop) : Prop := ∀ (u n : Nat) (B : Nat → Nat) (Z Z' : Z1), u < 2 → (∀ k, 7556 + 77 * u ≤ k → k < 7633 + 77 * u → Z' k = Z k) → TX u n B Z → TX u n B Z'
theorem tk.zc {i : Nat} (hi : i < 24) (hW : ∀ k, 220 ≤ k → k < 5380 → Z' k = Z k) : tk Z' i = tk Z i := by
  unfold tk
  rw [hW _ (by omega) (by omega), hW _ (by omega) (by omega)]
theorem R_ins.zc (hR : R_ins C Z b) (h0 : Z' 0 = Z 0) (h2 : Z' 2 = Z 2) (hW : ∀ k, 220 ≤ k → k < 5380 → Z' k = Z k) : R_ins C Z' b := by
  intro i hi t ht
  obtain ⟨a, c⟩ := hR i hi t ht
  refine ⟨fun q => ?_, fun q => ?_⟩
  · rw [h2] at q
    obtain ⟨a1, a2, a3⟩ := a q
    rw [tk.zc hi hW, h0]
    refine ⟨fun k k1 k2 => ?_, a2, fun q hq hk => ?_⟩
    · rw [hW _ (by omega) (by have := Nat.mod_lt (Z 0 + 410 - k) (show 0 < 41 by decide); omega)]
      exact a1 k k1 k2
    · rw [hW _ (by omega) (by omega)]
      exact a3 q hq hk
  · rw [h2] at q
    exact c q
theorem R_tape.zc (hR : R_tape C Z k) (h6 : Z' 6 = Z 6) (hc : Z 6 ≤ 60) (hT : ∀ k, 7710 ≤ k → k < 7770 → Z' k = Z k) : R_tape C Z' k := by
  obtain ⟨a, c⟩ := hR
  refine ⟨by rw [h6]; exact a, fun i hi => ?_⟩
  rw [h6] at hi
  rw [hT _ (by omega) (by omega)]
  exact c i hi
theorem R_txt.zc (hTX : TXc TX) (hu : u < 2) (hR : R_txt TX C Z u k) (hT : ∀ k, 7556 + 77 * u ≤ k → k < 7633 + 77 * u → Z' k = Z k) : R_txt TX C Z' u k := by
  rcases hR with ⟨a, c⟩ | ⟨a, c, d, e⟩
  · exact Or.inl ⟨a, by rw [hT _ (by omega) (by omega)]; exact c⟩
  · exact Or.inr ⟨a, c, by rw [hT _ (by omega) (by omega)]; exact d, hTX u _ _ Z Z' hu hT e⟩
theorem R_wait.zc (hR : R_wait C G Z k M) (h7 : Z' 7 = Z 7) : R_wait C G Z' k M := by
  obtain ⟨a, c⟩ := hR
  exact ⟨by rw [h7]; exact a, fun i hi => c i (by omega)⟩
theorem B_all.zc (hR : B_all Z) (hcnt : B_cnt Z') (h0 : Z' 0 = Z 0) (h1 : Z' 1 = Z 1) (h2 : Z' 2 = Z 2) (h3 : Z' 3 = Z 3) (h4 : Z' 4 = Z 4) (hB : ∀ k, 44 ≤ k → k < 7556 → Z' k = Z k) : B_all Z' := by
  obtain ⟨c, j, w, p, l, s, n⟩ := hR
  obtain ⟨c0, c1, c2, c3, c4, -⟩ := c
  exact ⟨hcnt, j.zc c1 h1 (fun k q1 q2 => hB k q1 (by omega)) (fun k q1 q2 => hB k (by omega) (by omega)), w.zc c1 c2 h1 h2 (fun k q1 q2 => hB k q1 (by omega)) (fun i hi k hk _ => hB _ (by omega) (by omega)), p.zc c1 c3 (by omega) h1 h3 (fun k q1 q2 => hB k q1 (by omega)) (fun k q1 q2 => hB k (by omega) (by omega)), l.zc c1 c4 (by omega) h1 (by omega) h4 (fun k q1 q2 => hB k q1 (by omega)) (fun k q1 q2 => hB k (by omega) (by omega)) (fun k q1 q2 => hB k (by omega) (by omega)), s.zc (by omega) (by omega) (fun k q1 q2 => hB k q1 (by omega)), n.zc c3 h3 (fun k q1 q2 => hB k q1 (by omega)) (fun k q1 q2 => hB k (by omega) (by omega)) (fun k q1 q2 => hB k (by omega) (by omega))⟩
/-- a change of FLOOD, FADE, sums: cells of Water ahead of its row 'at', scalars of the row -/
theorem R_world.sc (hTX : TXc TX) (hR : R_world TX h G C Z w M) (hZ : ∀ k, (k < 5 ∨ k = 6 ∨ k = 7 ∨ 44 ≤ k) → Z' k = Z k) (hcnt : B_cnt Z') (hwat : R_wat C' Z' (w + 5)) (hC : ∀ a, w ≤ a → a ≤ w + 28 → a < w + 5 ∨ w + 7 < a → C' a = C a) : R_world TX h G C' Z' w M := by
  obtain ⟨h0, h1, h2, h3, h4, h5, h6, h7, h8, h9⟩ := hR
  have hb := h0
  obtain ⟨⟨c0, c1, c2, c3, c4, c5, c6, c7, -⟩, -, -, -, hl, -⟩ := h0
  refine ⟨hb.zc hcnt (hZ 0 (by decide)) (hZ 1 (by decide)) (hZ 2 (by decide)) (hZ 3 (by decide)) (hZ 4 (by decide)) (fun k q _ => hZ k (by omega)), ?_, ?_, hwat, ?_, ?_, ?_, ?_, ?_, ?_⟩
  · exact (h1.zc (hZ 1 (by decide)) (hZ 2 (by decide)) (fun k q _ => hZ k (by omega))).congr (hC _ (by omega) (by omega) (by omega)) (hC _ (by omega) (by omega) (by omega)) (hC _ (by omega) (by omega) (by omega)) (hC _ (by omega) (by omega) (by omega))
  · exact h2.zc (hZ 2 (by decide)) (fun i _ k _ => hZ _ (by omega))
  · exact (h4.zc (hZ 0 (by decide)) (hZ 2 (by decide)) (fun k q _ => hZ k (by omega))).congr (hC _ (by omega) (by omega) (by omega))
  · exact (h5.zc (hZ 3 (by decide)) (hZ 4 (by decide)) (fun k q _ => hZ k (by omega)) (fun k q _ => hZ k (by omega)) c3 c4 hl).congr (hC _ (by omega) (by omega) (by omega)) (hC _ (by omega) (by omega) (by omega)) (hC _ (by omega) (by omega) (by omega))
  · exact (h6.zc (hZ 6 (by decide)) c6 (fun k q _ => hZ k (by omega))).congr (hC _ (by omega) (by omega) (by omega)) (hC _ (by omega) (by omega) (by omega))
  · exact (h7.zc hTX (by decide) (fun k q _ => hZ k (by omega))).congr (hC _ (by omega) (by omega) (by omega)) (hC _ (by omega) (by omega) (by omega))
  · exact (h8.zc hTX (by decide) (fun k q _ => hZ k (by omega))).congr (hC _ (by omega) (by omega) (by omega)) (hC _ (by omega) (by omega) (by omega))
  · exact (h9.zc (hZ 7 (by decide))).congr (hC _ (by omega) (by omega) (by omega)) rfl rfl
/-- only the world in use has changed, in the class's cells and its row -/
theorem R_all.world (hR : R_all TX h G Z C) (hC : ∀ a, (a = 0 ∨ 31 ≤ a) → C' a = C a) (hw : R_world TX h G C' Z' 1 87) : R_all TX h G Z' C' := by
  obtain ⟨r1, r2, r4, r5, -, Zk, hk, hwk⟩ := hR
  refine ⟨fun k q1 q2 => by rw [hC 81 (by decide)]; exact r1 k q1 q2, by rw [hC 0 (by decide)]; exact r2, ?_, ?_, hw, Zk, hk, hwk.congr (fun a q1 q2 => hC a (by omega)) (fun a q => rfl) rfl rfl⟩
  · unfold R_sheet at r4 ⊢
    rw [hC 82 (by decide), hC 83 (by decide)]
    exact r4
  · unfold R_trace at r5 ⊢
    rw [hC 79 (by decide), hC 80 (by decide)]
    exact r5
end ZC2
