/-! what a relation hangs on -/
theorem upC_o {C : C2} {a i x b : Nat} (h : b ≠ a) : upC C a i x b = C b := by
  funext j
  exact if_neg fun q => h q.1
theorem upC_s (C : C2) (a i x : Nat) : upC C a i x a i = x := if_pos ⟨rfl, rfl⟩
theorem upC_e (C : C2) (a i x j : Nat) : upC C a i x a j = if j = i then x else C a j := by
  unfold upC
  by_cases h : j = i
  · rw [if_pos ⟨rfl, h⟩, if_pos h]
  · rw [if_neg (fun q => h q.2), if_neg h]
theorem up2_o {G : F2} {a i b : Nat} {x : Int32} (h : b ≠ a) : up2 G a i x b = G b := by
  funext j
  exact if_neg fun q => h q.1
theorem aI_lit (H : mh_H) (a n : Nat) : aI H a (no_index (OfNat.ofNat n)) = aI H a (nI (OfNat.ofNat n)) := rfl
theorem uI_lit1 (H : mh_H) (a n : Nat) (x : Int32) : uI H a (no_index (OfNat.ofNat n)) x = uI H a (nI (OfNat.ofNat n)) x := rfl
theorem uI_lit2 (H : mh_H) (a n : Nat) (i : Int32) : uI H a i (no_index (OfNat.ofNat n)) = uI H a i (nI (OfNat.ofNat n)) := rfl
theorem pI_lit (H : mh_H) (ci a j n : Nat) : pI H ci a j (no_index (OfNat.ofNat n)) = pI H ci a j (nI (OfNat.ofNat n)) := rfl
section CONGR
variable {TX : Nat → Nat → (Nat → Nat) → Z1 → Prop} {h : mh_H} {G G' : F2} {C C' : C2} {Z Z' : Z1} {w b k M u : Nat}
theorem R_jnt.congr (hR : R_jnt C Z w) (e0 : C' w = C w) (e1 : C' (w + 1) = C (w + 1)) (e2 : C' (w + 2) = C (w + 2)) (e3 : C' (w + 3) = C (w + 3)) : R_jnt C' Z w := by
  unfold R_jnt at hR ⊢; rw [e0, e1, e2, e3]; exact hR
theorem R_way.congr (hR : R_way h G Z w) (hG : ∀ a, 105 ≤ a → G' a = G a) : R_way h G' Z w := fun i hi => by
  obtain ⟨p, h1, h2, h3, h4, h5⟩ := hR i hi
  refine ⟨p, h1, h2, h3, h4, fun hi2 => ?_⟩
  obtain ⟨q1, q2, q3⟩ := h5 hi2
  rw [hG p q1]
  exact ⟨q1, q2, q3⟩
theorem R_wat.congr (hR : R_wat C Z b) (e0 : C' b = C b) (e1 : C' (b + 1) = C (b + 1)) (e2 : C' (b + 2) = C (b + 2)) (e3 : C' (b + 3) = C (b + 3)) (e5 : C' (b + 5) = C (b + 5)) (e6 : C' (b + 6) = C (b + 6)) (e7 : C' (b + 7) = C (b + 7)) (e8 : C' (b + 8) = C (b + 8)) : R_wat C' Z b := by
  unfold R_wat at hR ⊢; rw [e0, e1, e2, e3, e5, e6, e7, e8]; exact hR
theorem R_ins.congr (hR : R_ins C Z b) (e4 : C' (b + 4) = C (b + 4)) : R_ins C' Z b := by
  unfold R_ins at hR ⊢; rw [e4]; exact hR
theorem R_look.congr (hR : R_look C Z k) (e0 : C' k = C k) (e1 : C' (k + 1) = C (k + 1)) (e2 : C' (k + 2) = C (k + 2)) : R_look C' Z k := by
  unfold R_look at hR ⊢; rw [e0, e1, e2]; exact hR
theorem R_tape.congr (hR : R_tape C Z k) (e0 : C' k = C k) (e1 : C' (k + 1) = C (k + 1)) : R_tape C' Z k := by
  unfold R_tape at hR ⊢; rw [e0, e1]; exact hR
theorem R_txt.congr (hR : R_txt TX C Z u k) (e0 : C' k = C k) (e1 : C' (k + 1) = C (k + 1)) : R_txt TX C' Z u k := by
  unfold R_txt at hR ⊢; rw [e0, e1]; exact hR
theorem R_wait.congr (hR : R_wait C G Z k M) (e0 : C' k = C k) (e1 : G' (k + 1) = G (k + 1)) (e2 : G' M = G M) : R_wait C' G' Z k M := by
  unfold R_wait at hR ⊢; rw [e0, e1, e2]; exact hR
theorem R_world.congr (hR : R_world TX h G C Z w M) (hC : ∀ a, w ≤ a → a ≤ w + 28 → C' a = C a) (hG : ∀ a, 105 ≤ a → G' a = G a) (e1 : G' (w + 29) = G (w + 29)) (e2 : G' M = G M) : R_world TX h G' C' Z w M := by
  obtain ⟨h0, h1, h2, h3, h4, h5, h6, h7, h8, h9⟩ := hR
  exact ⟨h0, h1.congr (hC _ (by omega) (by omega)) (hC _ (by omega) (by omega)) (hC _ (by omega) (by omega)) (hC _ (by omega) (by omega)), h2.congr hG,
    h3.congr (hC _ (by omega) (by omega)) (hC _ (by omega) (by omega)) (hC _ (by omega) (by omega)) (hC _ (by omega) (by omega)) (hC _ (by omega) (by omega)) (hC _ (by omega) (by omega)) (hC _ (by omega) (by omega)) (hC _ (by omega) (by omega)),
    h4.congr (hC _ (by omega) (by omega)), h5.congr (hC _ (by omega) (by omega)) (hC _ (by omega) (by omega)) (hC _ (by omega) (by omega)), h6.congr (hC _ (by omega) (by omega)) (hC _ (by omega) (by omega)),
    h7.congr (hC _ (by omega) (by omega)) (hC _ (by omega) (by omega)), h8.congr (hC _ (by omega) (by omega)) (hC _ (by omega) (by omega)), h9.congr (hC _ (by omega) (by omega)) e1 e2⟩
/-- nothing of the worlds has changed -/
theorem R_all.rest (hR : R_all TX h G Z C) (hC : ∀ a, 1 ≤ a → a ≤ 60 → C' a = C a) (hG : ∀ a, (105 ≤ a ∨ a = 30 ∨ a = 61 ∨ a = 87 ∨ a = 88) → G' a = G a) (h1 : R_err G' C') (h2 : G' 86 3 = nI (C' 0 10)) (h4 : R_sheet G' C') (h5 : R_trace G' C') : R_all TX h G' Z C' := by
  obtain ⟨-, -, -, -, hw, Zk, hk, hwk⟩ := hR
  refine ⟨h1, h2, h4, h5, hw.congr (fun a q1 q2 => hC a q1 (by omega)) (fun a q => hG a (Or.inl q)) (hG 30 (by decide)) (hG 87 (by decide)), Zk, fun i hi => ?_, hwk.congr (fun a q1 q2 => hC a (by omega) q2) (fun a q => hG a (Or.inl q)) (hG 61 (by decide)) (hG 88 (by decide))⟩
  rw [hG 88 (by decide)]
  exact hk i hi
/-- an act that told an error -/
theorem R_all.err (hR : R_all TX h G Z C) {e : Nat} (he : 1 ≤ e ∧ e ≤ 6) : R_all TX h (up2 G 90 e (G 90 e + 1)) Z (upC C 81 e (C 81 e + 1)) := by
  have h0 := hR
  obtain ⟨r1, r2, r4, r5, -⟩ := hR
  refine h0.rest (fun a q1 q2 => upC_o (by omega)) (fun a q => up2_o (by omega)) (fun k q1 q2 => ?_) (by rw [up2_o (by decide), upC_o (by decide)]; exact r2) ?_ ?_
  · rw [up2_e, upC_e]
    by_cases hk : k = e
    · rw [if_pos hk, if_pos hk, r1 e he.1 he.2, nI_1]
    · rw [if_neg hk, if_neg hk]; exact r1 k q1 q2
  · unfold R_sheet at r4 ⊢
    rw [up2_o (by decide), up2_o (by decide), up2_o (by decide), up2_o (by decide), upC_o (by decide), upC_o (by decide)]
    exact r4
  · unfold R_trace at r5 ⊢
    rw [up2_o (by decide), up2_o (by decide), upC_o (by decide), upC_o (by decide)]
    exact r5
theorem cz_o {a : Nat} (ha : isN a = false) : cz G C a = G a := by
  funext j
  unfold cz
  rw [ha]; rfl
theorem gz_o {a : Nat} (ha : a ≠ 87) : gz G Z a = G a := by
  funext j
  exact if_neg fun q => ha q.1
end CONGR
