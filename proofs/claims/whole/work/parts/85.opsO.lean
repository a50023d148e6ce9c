/-! image, restore -/
section OPSO
variable {h h3 : mh_H} {TX : Nat → Nat → (Nat → Nat) → Z1 → Prop} {G G' : F2} {C C' : C2} {Z Z' : Z1} {s d M M' : Nat}
/-- what a text tells hangs on its own bytes -/
def TXd (TX : Nat → Nat → (Nat → Nat) → Z1 → Prop) : Prop := ∀ (u n : Nat) (B B' : Nat → Nat) (Z : Z1), u < 2 → (∀ i, i < n → B' i = B i) → TX u n B Z → TX u n B' Z
theorem R_txt.copy {k k' u : Nat} (hTB : TXd TX) (hu : u < 2) (hR : R_txt TX C Z u k) (e0 : C' k' 1 = C k 1) (e1 : ∀ j, j < C k 1 → C' (k' + 1) j = C (k + 1) j) : R_txt TX C' Z u k' := by
  unfold R_txt at hR ⊢
  rw [e0]
  rcases hR with h1 | ⟨h1, h2, h3, h4⟩
  · exact Or.inl h1
  · exact Or.inr ⟨h1, h2, h3, hTB u _ _ _ Z hu e1 h4⟩
theorem R_world.copy (hTB : TXd TX) (hR : R_world TX h G C Z s M) (f0 : ∀ j, j < 3 → C' d j = C s j) (f1 : ∀ j, j < 16 → C' (d + 1) j = C (s + 1) j) (f2 : ∀ j, j < 16 → C' (d + 2) j = C (s + 2) j) (f3 : ∀ j, j < 16 → C' (d + 3) j = C (s + 3) j)
    (w0 : ∀ j, j < 3 → C' (d + 5) j = C (s + 5) j) (w1 : ∀ j, j < 4 → C' (d + 5 + 1) j = C (s + 5 + 1) j) (w2 : ∀ j, j < 28 → C' (d + 5 + 2) j = C (s + 5 + 2) j) (w3 : ∀ j, j < 80 → C' (d + 5 + 3) j = C (s + 5 + 3) j) (w4 : ∀ j, j < 4800 → C' (d + 5 + 4) j = C (s + 5 + 4) j) (w5 : ∀ j, j < 120 → C' (d + 5 + 5) j = C (s + 5 + 5) j) (w6 : ∀ j, j < 16 → C' (d + 5 + 6) j = C (s + 5 + 6) j) (w7 : ∀ j, j < 16 → C' (d + 5 + 7) j = C (s + 5 + 7) j) (w8 : ∀ j, j < 1536 → C' (d + 5 + 8) j = C (s + 5 + 8) j)
    (l0 : ∀ j, j < 2 → C' (d + 15) j = C (s + 15) j) (l1 : ∀ j, j < 160 → C' (d + 15 + 1) j = C (s + 15 + 1) j) (l2 : ∀ j, j < 480 → C' (d + 15 + 2) j = C (s + 15 + 2) j)
    (t0 : C' (d + 22) 1 = C (s + 22) 1) (t1 : ∀ j, j < C (s + 22) 1 → C' (d + 22 + 1) j = C (s + 22 + 1) j) (u0 : C' (d + 24) 1 = C (s + 24) 1) (u1 : ∀ j, j < C (s + 24) 1 → C' (d + 24 + 1) j = C (s + 24 + 1) j) (v0 : C' (d + 26) 1 = C (s + 26) 1) (v1 : ∀ j, j < C (s + 26) 1 → C' (d + 26 + 1) j = C (s + 26 + 1) j) (q0 : C' (d + 28) 1 = C (s + 28) 1) (q1 : ∀ j, j < C (s + 28) 1 → G' (d + 28 + 1) j = G (s + 28 + 1) j) (qm : ∀ j, j < 24 → G' M' (7770 + j) = G M (7770 + j))
    (hr : ∀ i, i < 24 → mh_r h3 (d + 4) i = mh_r h (s + 4) i) (hn : mh_n h3 = mh_n h) (hk : mh_k h3 = mh_k h) (hG : ∀ a, 105 ≤ a → G' a = G a) : R_world TX h3 G' C' Z d M' := by
  obtain ⟨hb, g1, g2, g3, g4, g5, g6, g7, g8, g9⟩ := hR
  have hcnt := hb.1
  obtain ⟨c0, c1, c2, c3, c4, c5, c6, c7, -⟩ := hcnt
  refine ⟨hb, ?_, ?_, ?_, ?_, ?_, ?_, g7.copy hTB (by decide) u0 u1, g8.copy hTB (by decide) v0 v1, ?_⟩
  · obtain ⟨r1, r2, r3, r4, r5⟩ := g1
    refine ⟨by rw [f0 0 (by decide)]; exact r1, by rw [f0 1 (by decide)]; exact r2, fun j hj => by rw [f1 j hj, f2 j hj, f3 j hj]; exact r3 j hj, by rw [f0 2 (by decide)]; exact r4, fun j hj => by rw [f0 2 (by decide)]; exact r5 j hj⟩
  · intro i hi
    obtain ⟨p, p1, p2, p3, p4, p5⟩ := g2 i hi
    refine ⟨p, by rw [hr i hi]; exact p1, by rw [hn]; exact p2, by rw [hk]; exact p3, p4, fun q => ?_⟩
    have p5' := p5 q
    rw [hk, hG p p5'.1]
    exact p5'
  · obtain ⟨r0, r1, r2, r3, r4, r5, r6⟩ := g3
    refine ⟨by rw [w0 0 (by decide)]; exact r0, by rw [w0 1 (by decide)]; exact r1, by rw [w0 2 (by decide)]; exact r2, fun c hc => by rw [w1 c hc]; exact r3 c hc, fun c hc k hk' h1 => by rw [w2 _ (by omega)]; exact r4 c hc k hk' h1, fun j hj => ?_, fun i hi t ht => by rw [w5 _ (by omega)]; exact r6 i hi t ht⟩
    obtain ⟨j1, j2, j3, j4, j5⟩ := r5 j hj
    exact ⟨by rw [w3 _ (by omega)]; exact j1, fun c hc => by rw [w3 _ (by omega)]; exact j2 c hc, by rw [w6 _ hj]; exact j3, by rw [w7 _ hj]; exact j4, fun c hc r hr => by rw [w8 _ (by omega)]; exact j5 c hc r hr⟩
  · intro i hi t ht
    obtain ⟨i1, i2⟩ := g4 i hi t ht
    refine ⟨fun q => ?_, fun q r hr => by rw [w4 _ (by omega)]; exact i2 q r hr⟩
    obtain ⟨a1, a2, a3⟩ := i1 q
    have hb1 := tk_bd hb q
    refine ⟨fun k k1 k2 => ?_, fun r r1 r2 => by rw [w4 _ (by omega)]; exact a2 r r1 r2, a3⟩
    have := Nat.mod_lt (Z 0 + 40 * tk Z i - k) (show 0 < tk Z i by omega)
    rw [w4 _ (by omega)]
    exact a1 k k1 k2
  · obtain ⟨r1, r2, r3, r4⟩ := g5
    refine ⟨by rw [l0 0 (by decide)]; exact r1, by rw [l0 1 (by decide)]; exact r2, fun p hp q hq => by rw [l1 _ (by omega)]; exact r3 p hp q hq, fun l hl => ?_⟩
    obtain ⟨d1, d2, d3⟩ := r4 l hl
    exact ⟨fun q hq => by rw [l2 _ (by omega)]; exact d1 q hq, by rw [l2 _ (by omega)]; exact d2, fun q => by rw [l2 _ (by omega)]; exact d3 q⟩
  · obtain ⟨r1, r2⟩ := g6
    refine ⟨by rw [t0]; exact r1, fun i hi => by rw [t1 i (by rw [r1]; exact hi)]; exact r2 i hi⟩
  · obtain ⟨r1, r2⟩ := g9
    refine ⟨by rw [q0]; exact r1, fun i hi => by rw [q1 i (by rw [r1]; exact hi), qm i (by omega)]; exact r2 i hi⟩
/-- the first k ways of array a stand in array b -/
def cpR (h : mh_H) (b a k : Nat) : mh_H := (h.1, h.2.1, h.2.2.1, h.2.2.2.1, h.2.2.2.2.1, fun x i => if x = b ∧ i < k then mh_r h a i else mh_r h x i)
theorem cpR_0 (h : mh_H) (b a : Nat) : cpR h b a 0 = h := by
  refine Eq.trans (b := (h.1, h.2.1, h.2.2.1, h.2.2.2.1, h.2.2.2.2.1, h.2.2.2.2.2)) ?_ rfl
  unfold cpR
  congr 5
  funext x i
  exact if_neg (by omega)
theorem cpR_r (h : mh_H) {b a k x i : Nat} (q : ¬ (x = b ∧ i < k)) : mh_r (cpR h b a k) x i = mh_r h x i := if_neg q
theorem cpR_s (h : mh_H) {b a k i : Nat} (q : i < k) : mh_r (cpR h b a k) b i = mh_r h a i := if_pos ⟨rfl, q⟩
theorem Rd_536 {k j r : Nat} (e : Rd k j = some r) : k ≠ 5 ∧ k ≠ 36 := by
  unfold Rd at e
  cases e1 : rdL.find? (fun q => q.1 == k && q.2.1 == j) with
  | none => rw [e1] at e; cases e
  | some q =>
    have m := List.mem_of_find?_eq_some e1
    have t := List.find?_some e1
    rw [Bool.and_eq_true] at t
    have t1 := eq_of_beq t.1
    have := (by decide : ∀ q ∈ rdL, q.1 ≠ 5 ∧ q.1 ≠ 36) q m
    rw [t1] at this
    exact this
theorem Sh_cpR (hs : Sh h) {b : Nat} (hb : b = 5 ∨ b = 36) (a k : Nat) : Sh (cpR h b a k) := by
  obtain ⟨h1, h2, h3⟩ := hs
  refine ⟨h1, h2, fun x j r e => ?_⟩
  have := Rd_536 e
  rw [cpR_r h (by omega)]
  exact h3 x j r e
theorem cpR_sr (h : mh_H) (F : F2) {b a k : Nat} (hab : a ≠ b) : mh_sr (mh_w (cpR h b a k) F) b k (mh_r h a k) = mh_w (cpR h b a (k + 1)) F := by
  refine congrArg (fun R => ((h.1, h.2.1, h.2.2.1, h.2.2.2.1, F, R) : mh_H)) (funext fun x => funext fun i => ?_)
  show (if x = b ∧ i = k then mh_r h a k else if x = b ∧ i < k then mh_r h a i else mh_r h x i) = if x = b ∧ i < k + 1 then mh_r h a i else mh_r h x i
  by_cases q : x = b ∧ i = k
  · rw [if_pos q, if_pos (by omega), q.2]
  · rw [if_neg q]
    by_cases q2 : x = b ∧ i < k
    · rw [if_pos q2, if_pos (by omega)]
    · rw [if_neg q2, if_neg (by omega)]
theorem aR_p (hs : Sh h) (F : F2) {a i p : Nat} (ha : a = 5 ∨ a = 36) (hi : i < 24) (e : mh_r h a i = some p) : aR (mh_w h F) a (nI i) = some p := by
  have e1 : (nI i).toNatClampNeg = i := nI_clamp (by omega)
  have hk : Kd a = 1 ∧ Ld a = 24 ∧ a < 105 := by rcases ha with rfl | rfl <;> decide
  unfold aR
  rw [if_pos ⟨⟨Nat.lt_of_lt_of_le hk.2.2 hs.1, ((hs.2.1 a hk.2.2).1).trans hk.1⟩, by rw [mh_w_l, (hs.2.1 a hk.2.2).2]; exact nI_bd (k := Ld a) (by omega) (by omega)⟩, e1]
  exact e
theorem uR_p (hs : Sh h) (F : F2) {a i p : Nat} (ha : a = 5 ∨ a = 36) (hi : i < 24) (hp : p < mh_n h) (hw : mh_isW (mh_k h p) = true) : uR (mh_w h F) a (nI i) p = some (mh_sr (mh_w h F) a i (some p)) := by
  have e1 : (nI i).toNatClampNeg = i := nI_clamp (by omega)
  have hk : Kd a = 1 ∧ Ld a = 24 ∧ a < 105 := by rcases ha with rfl | rfl <;> decide
  unfold uR
  rw [if_pos ⟨⟨⟨Nat.lt_of_lt_of_le hk.2.2 hs.1, ((hs.2.1 a hk.2.2).1).trans hk.1⟩, by rw [mh_w_l, (hs.2.1 a hk.2.2).2]; exact nI_bd (k := Ld a) (by omega) (by omega)⟩, ⟨hp, hw⟩⟩, e1]
theorem c_cp71 (hs : Sh h) (N : Nat) {d s : Nat} (hd : d = 32 ∧ s = 1 ∨ d = 1 ∧ s = 32) (hsrc : ∀ i, i < 24 → ∃ p, mh_r h (s + 4) i = some p ∧ p < mh_n h ∧ mh_isW (mh_k h p) = true) (F0 : F2) : ∀ (m F k : Nat), k + m = 24 → m < F → D_X10_copyOf_71 N F (mh_w (cpR h (d + 4) (s + 4) k) F0) d s (nI k) = D_X10_copyOf_71 N 1 (mh_w (cpR h (d + 4) (s + 4) 24) F0) d s (nI 24) := by
  intro m
  induction m with
  | zero =>
    intro F k hk hF
    obtain ⟨F, rfl⟩ : ∃ F1, F = F1 + 1 := ⟨F - 1, by omega⟩
    rw [show k = 24 by omega]
    rfl
  | succ m ih =>
    intro F k hk hF
    obtain ⟨F, rfl⟩ : ∃ F1, F = F1 + 1 := ⟨F - 1, by omega⟩
    obtain ⟨p, p1, p2, p3⟩ := hsrc k (by omega)
    have hsk := Sh_cpR hs (b := d + 4) (by omega) (s + 4) k
    have e1 : mh_r (cpR h (d + 4) (s + 4) k) (s + 4) k = some p := (cpR_r h (by omega)).trans p1
    have e2 : (24 : Int32) ≤ nI k ↔ False := ⟨fun q => by have := (nI_leI (a := 24) (by decide) (by omega)).mp q; omega, fun q => q.elim⟩
    have e3 := cpR_sr h F0 (b := d + 4) (a := s + 4) (k := k) (by omega)
    rw [p1] at e3
    rw [D_X10_copyOf_71, if_neg (fun q => e2.mp q)]
    rcases hd with ⟨rfl, rfl⟩ | ⟨rfl, rfl⟩
    · rw [gr_32_6 hsk, some_bind, gr_1_6 hsk, some_bind, aR_p hsk F0 (Or.inl rfl) (by omega) e1, some_bind, uR_p hsk F0 (Or.inr rfl) (by omega) p2 p3, some_bind, e3, show Int32.ofInt 1 = nI 1 from rfl, nI_add]
      exact ih F (k + 1) (by omega) (by omega)
    · rw [gr_1_6 hsk, some_bind, gr_32_6 hsk, some_bind, aR_p hsk F0 (Or.inr rfl) (by omega) e1, some_bind, uR_p hsk F0 (Or.inl rfl) (by omega) p2 p3, some_bind, e3, show Int32.ofInt 1 = nI 1 from rfl, nI_add]
      exact ih F (k + 1) (by omega) (by omega)
end OPSO
