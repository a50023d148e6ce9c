/-! WATER at b (6 or 63): its cells, and the places in the row that they stand for -/
section P01
variable {h : mh_H} {b n : Nat} {G F0 : F2} {C C' : C2} {Z Z' : Z1} {T τ : Nat → Nat}
theorem wko (hs : Sh h) (hb : b = 6 ∨ b = 63) (F : F2) {α : Type} (f : Option α) : kO (mh_w h F) 8 b f = f := by
  rcases hb with rfl | rfl
  · exact ko_6 hs F f
  · exact ko_63 hs F f
theorem wr_3 (hs : Sh h) (hb : b = 6 ∨ b = 63) (F : F2) : gR (mh_w h F) 8 b 3 = some (b + 1) := by
  rcases hb with rfl | rfl
  · exact gr_6_3 hs F
  · exact gr_63_3 hs F
theorem wr_4 (hs : Sh h) (hb : b = 6 ∨ b = 63) (F : F2) : gR (mh_w h F) 8 b 4 = some (b + 2) := by
  rcases hb with rfl | rfl
  · exact gr_6_4 hs F
  · exact gr_63_4 hs F
theorem wr_5 (hs : Sh h) (hb : b = 6 ∨ b = 63) (F : F2) : gR (mh_w h F) 8 b 5 = some (b + 3) := by
  rcases hb with rfl | rfl
  · exact gr_6_5 hs F
  · exact gr_63_5 hs F
theorem wr_6 (hs : Sh h) (hb : b = 6 ∨ b = 63) (F : F2) : gR (mh_w h F) 8 b 6 = some (b + 4) := by
  rcases hb with rfl | rfl
  · exact gr_6_6 hs F
  · exact gr_63_6 hs F
theorem wr_7 (hs : Sh h) (hb : b = 6 ∨ b = 63) (F : F2) : gR (mh_w h F) 8 b 7 = some (b + 5) := by
  rcases hb with rfl | rfl
  · exact gr_6_7 hs F
  · exact gr_63_7 hs F
theorem wr_8 (hs : Sh h) (hb : b = 6 ∨ b = 63) (F : F2) : gR (mh_w h F) 8 b 8 = some (b + 6) := by
  rcases hb with rfl | rfl
  · exact gr_6_8 hs F
  · exact gr_63_8 hs F
theorem wr_9 (hs : Sh h) (hb : b = 6 ∨ b = 63) (F : F2) : gR (mh_w h F) 8 b 9 = some (b + 7) := by
  rcases hb with rfl | rfl
  · exact gr_6_9 hs F
  · exact gr_63_9 hs F
theorem wr_10 (hs : Sh h) (hb : b = 6 ∨ b = 63) (F : F2) : gR (mh_w h F) 8 b 10 = some (b + 8) := by
  rcases hb with rfl | rfl
  · exact gr_6_10 hs F
  · exact gr_63_10 hs F
theorem wr_11 (hs : Sh h) (hb : b = 6 ∨ b = 63) (F : F2) : gR (mh_w h F) 8 b 11 = some (b + 9) := by
  rcases hb with rfl | rfl
  · exact gr_6_11 hs F
  · exact gr_63_11 hs F
theorem wpi (hs : Sh h) (hb : b = 6 ∨ b = 63) (G : F2) (C : C2) (j x : Nat) : pI (mh_w h (cz G C)) 8 b j (nI x) = some (mh_w h (cz G (upC C b j x))) := by
  rcases hb with rfl | rfl
  · exact pi_6 hs G C j x
  · exact pi_63 hs G C j x
theorem wa_1 (hs : Sh h) (hb : b = 6 ∨ b = 63) (G : F2) (C : C2) {n : Nat} (hn : n < 4) : aI (mh_w h (cz G C)) (b + 1) (nI n) = some (nI (C (b + 1) n)) := by
  rcases hb with rfl | rfl
  · exact ai_7 hs G C hn
  · exact ai_64 hs G C hn
theorem wu_1 (hs : Sh h) (hb : b = 6 ∨ b = 63) (G : F2) (C : C2) {n x : Nat} (hn : n < 4) : uI (mh_w h (cz G C)) (b + 1) (nI n) (nI x) = some (mh_w h (cz G (upC C (b + 1) n x))) := by
  rcases hb with rfl | rfl
  · exact ui_7 hs G C hn
  · exact ui_64 hs G C hn
theorem wa_2 (hs : Sh h) (hb : b = 6 ∨ b = 63) (G : F2) (C : C2) {n : Nat} (hn : n < 28) : aI (mh_w h (cz G C)) (b + 2) (nI n) = some (nI (C (b + 2) n)) := by
  rcases hb with rfl | rfl
  · exact ai_8 hs G C hn
  · exact ai_65 hs G C hn
theorem wu_2 (hs : Sh h) (hb : b = 6 ∨ b = 63) (G : F2) (C : C2) {n x : Nat} (hn : n < 28) : uI (mh_w h (cz G C)) (b + 2) (nI n) (nI x) = some (mh_w h (cz G (upC C (b + 2) n x))) := by
  rcases hb with rfl | rfl
  · exact ui_8 hs G C hn
  · exact ui_65 hs G C hn
theorem wa_3 (hs : Sh h) (hb : b = 6 ∨ b = 63) (G : F2) (C : C2) {n : Nat} (hn : n < 80) : aI (mh_w h (cz G C)) (b + 3) (nI n) = some (nI (C (b + 3) n)) := by
  rcases hb with rfl | rfl
  · exact ai_9 hs G C hn
  · exact ai_66 hs G C hn
theorem wu_3 (hs : Sh h) (hb : b = 6 ∨ b = 63) (G : F2) (C : C2) {n x : Nat} (hn : n < 80) : uI (mh_w h (cz G C)) (b + 3) (nI n) (nI x) = some (mh_w h (cz G (upC C (b + 3) n x))) := by
  rcases hb with rfl | rfl
  · exact ui_9 hs G C hn
  · exact ui_66 hs G C hn
theorem wa_4 (hs : Sh h) (hb : b = 6 ∨ b = 63) (G : F2) (C : C2) {n : Nat} (hn : n < 4800) : aI (mh_w h (cz G C)) (b + 4) (nI n) = some (nI (C (b + 4) n)) := by
  rcases hb with rfl | rfl
  · exact ai_10 hs G C hn
  · exact ai_67 hs G C hn
theorem wu_4 (hs : Sh h) (hb : b = 6 ∨ b = 63) (G : F2) (C : C2) {n x : Nat} (hn : n < 4800) : uI (mh_w h (cz G C)) (b + 4) (nI n) (nI x) = some (mh_w h (cz G (upC C (b + 4) n x))) := by
  rcases hb with rfl | rfl
  · exact ui_10 hs G C hn
  · exact ui_67 hs G C hn
theorem wa_5 (hs : Sh h) (hb : b = 6 ∨ b = 63) (G : F2) (C : C2) {n : Nat} (hn : n < 120) : aI (mh_w h (cz G C)) (b + 5) (nI n) = some (nI (C (b + 5) n)) := by
  rcases hb with rfl | rfl
  · exact ai_11 hs G C hn
  · exact ai_68 hs G C hn
theorem wu_5 (hs : Sh h) (hb : b = 6 ∨ b = 63) (G : F2) (C : C2) {n x : Nat} (hn : n < 120) : uI (mh_w h (cz G C)) (b + 5) (nI n) (nI x) = some (mh_w h (cz G (upC C (b + 5) n x))) := by
  rcases hb with rfl | rfl
  · exact ui_11 hs G C hn
  · exact ui_68 hs G C hn
theorem wa_6 (hs : Sh h) (hb : b = 6 ∨ b = 63) (G : F2) (C : C2) {n : Nat} (hn : n < 16) : aI (mh_w h (cz G C)) (b + 6) (nI n) = some (nI (C (b + 6) n)) := by
  rcases hb with rfl | rfl
  · exact ai_12 hs G C hn
  · exact ai_69 hs G C hn
theorem wu_6 (hs : Sh h) (hb : b = 6 ∨ b = 63) (G : F2) (C : C2) {n x : Nat} (hn : n < 16) : uI (mh_w h (cz G C)) (b + 6) (nI n) (nI x) = some (mh_w h (cz G (upC C (b + 6) n x))) := by
  rcases hb with rfl | rfl
  · exact ui_12 hs G C hn
  · exact ui_69 hs G C hn
theorem wa_7 (hs : Sh h) (hb : b = 6 ∨ b = 63) (G : F2) (C : C2) {n : Nat} (hn : n < 16) : aI (mh_w h (cz G C)) (b + 7) (nI n) = some (nI (C (b + 7) n)) := by
  rcases hb with rfl | rfl
  · exact ai_13 hs G C hn
  · exact ai_70 hs G C hn
theorem wu_7 (hs : Sh h) (hb : b = 6 ∨ b = 63) (G : F2) (C : C2) {n x : Nat} (hn : n < 16) : uI (mh_w h (cz G C)) (b + 7) (nI n) (nI x) = some (mh_w h (cz G (upC C (b + 7) n x))) := by
  rcases hb with rfl | rfl
  · exact ui_13 hs G C hn
  · exact ui_70 hs G C hn
theorem wa_8 (hs : Sh h) (hb : b = 6 ∨ b = 63) (G : F2) (C : C2) {n : Nat} (hn : n < 1536) : aI (mh_w h (cz G C)) (b + 8) (nI n) = some (nI (C (b + 8) n)) := by
  rcases hb with rfl | rfl
  · exact ai_14 hs G C hn
  · exact ai_71 hs G C hn
theorem wu_8 (hs : Sh h) (hb : b = 6 ∨ b = 63) (G : F2) (C : C2) {n x : Nat} (hn : n < 1536) : uI (mh_w h (cz G C)) (b + 8) (nI n) (nI x) = some (mh_w h (cz G (upC C (b + 8) n x))) := by
  rcases hb with rfl | rfl
  · exact ui_14 hs G C hn
  · exact ui_71 hs G C hn
theorem wa_9 (hs : Sh h) (hb : b = 6 ∨ b = 63) (G : F2) (C : C2) {n : Nat} (hn : n < 24) : aI (mh_w h (cz G C)) (b + 9) (nI n) = some (nI (C (b + 9) n)) := by
  rcases hb with rfl | rfl
  · exact ai_15 hs G C hn
  · exact ai_72 hs G C hn
theorem wu_9 (hs : Sh h) (hb : b = 6 ∨ b = 63) (G : F2) (C : C2) {n x : Nat} (hn : n < 24) : uI (mh_w h (cz G C)) (b + 9) (nI n) (nI x) = some (mh_w h (cz G (upC C (b + 9) n x))) := by
  rcases hb with rfl | rfl
  · exact ui_15 hs G C hn
  · exact ui_72 hs G C hn
/-- a place in the class's ring and in the reference's that hold what went in at one HOUR -/
def SQ (T τ s q : Nat) : Prop := ∃ k, 1 ≤ k ∧ k ≤ T ∧ s = (τ + 40 * T - k) % T ∧ q = (τ + 410 - k) % 41
theorem mod_inj {T x y : Nat} (hxy : x ≤ y) (hd : y - x < T) (e : x % T = y % T) : x = y := by
  have h1 : (y - x) % T = 0 := Nat.sub_mod_eq_zero_of_mod_eq e.symm
  rw [Nat.mod_eq_of_lt hd] at h1
  omega
theorem SQ_f {T τ s q s' q' : Nat} (hT : 1 ≤ T) (hT2 : T ≤ 40) (h1 : SQ T τ s q) (h2 : SQ T τ s' q') : s = s' ↔ q = q' := by
  obtain ⟨k, k1, k2, k3, k4⟩ := h1
  obtain ⟨k', l1, l2, l3, l4⟩ := h2
  constructor
  · intro e
    have ek : k = k' := by
      rw [k3, l3] at e
      rcases Nat.le_total k k' with q | q
      · have := mod_inj (T := T) (x := τ + 40 * T - k') (y := τ + 40 * T - k) (by omega) (by omega) e.symm
        omega
      · have := mod_inj (T := T) (x := τ + 40 * T - k) (y := τ + 40 * T - k') (by omega) (by omega) e
        omega
    rw [k4, l4, ek]
  · intro e
    have ek : k = k' := by omega
    rw [k3, l3, ek]
theorem SQ_b {T τ s q : Nat} (hT : 1 ≤ T) (hq : SQ T τ s q) : s < T ∧ q < 41 := by
  obtain ⟨k, k1, k2, k3, k4⟩ := hq
  exact ⟨by rw [k3]; exact Nat.mod_lt _ hT, by omega⟩
/-- the class's cell (a, i) and the row's place z hold the same -/
def Pl (b n : Nat) (T τ : Nat → Nat) (a i z : Nat) : Prop := (a = b ∧ i = 0 ∧ z = 0) ∨ (a = b ∧ i = 1 ∧ z = 5) ∨ (a = b ∧ i = 2 ∧ z = 8) ∨ (∃ c, c < 4 ∧ a = b + 1 ∧ i = c ∧ z = 10 + c) ∨ (∃ c k, c < 4 ∧ k < 7 ∧ k ≠ 1 ∧ a = b + 2 ∧ i = c * 7 + k ∧ z = 16 + 7 * c + k) ∨ (∃ j, j < 16 ∧ a = b + 3 ∧ i = j * 5 ∧ z = 47 + 11 * j) ∨ (∃ j c, j < 16 ∧ c < 4 ∧ a = b + 3 ∧ i = j * 5 + 1 + c ∧ z = 51 + 11 * j + c) ∨ (∃ w t, w < 24 ∧ t < 5 ∧ a = b + 5 ∧ i = w * 5 + t ∧ z = 225 + 215 * w + t) ∨ (∃ j, j < 16 ∧ a = b + 6 ∧ i = j ∧ z = 48 + 11 * j) ∨ (∃ j, j < 16 ∧ a = b + 7 ∧ i = j ∧ z = 49 + 11 * j) ∨ (∃ j c r, j < 16 ∧ c < 4 ∧ r < 24 ∧ a = b + 8 ∧ i = (j * 4 + c) * 24 + r ∧ z = 5380 + 4 * (24 * j + r) + c) ∨ (∃ w t s q, w < n ∧ t < 5 ∧ SQ (T w) (τ w) s q ∧ a = b + 4 ∧ i = (w * 40 + s) * 5 + t ∧ z = 230 + 215 * w + 5 * q + t)
def Tb (n : Nat) (T : Nat → Nat) : Prop := n ≤ 24 ∧ ∀ w, w < n → 1 ≤ T w ∧ T w ≤ 40
set_option maxHeartbeats 8000000 in
theorem Pl_u {a i z a' i' z' : Nat} (hT : Tb n T) (h1 : Pl b n T τ a i z) (h2 : Pl b n T τ a' i' z') : (a = a' ∧ i = i') ↔ z = z' := by
  rcases h1 with h1 | h1 | h1 | ⟨c, h1⟩ | ⟨c, k, h1⟩ | ⟨j, h1⟩ | ⟨j, c, h1⟩ | ⟨w, t, h1⟩ | ⟨j, h1⟩ | ⟨j, h1⟩ | ⟨j, c, r, h1⟩ | ⟨w, t, s, q, w1, t1, q1, h1⟩
  case inr.inr.inr.inr.inr.inr.inr.inr.inr.inr.inr =>
    have b1 := hT.2 w w1
    have b2 := SQ_b b1.1 q1
    have b3 := hT.1
    rcases h2 with h2 | h2 | h2 | ⟨c, h2⟩ | ⟨c, k, h2⟩ | ⟨j, h2⟩ | ⟨j, c, h2⟩ | ⟨w', t', h2⟩ | ⟨j, h2⟩ | ⟨j, h2⟩ | ⟨j, c, r, h2⟩ | ⟨w', t', s', q', w2, t2, q2, h2⟩
    case inr.inr.inr.inr.inr.inr.inr.inr.inr.inr.inr =>
      have d1 := hT.2 w' w2
      have d2 := SQ_b d1.1 q2
      constructor
      · rintro ⟨e1, e2⟩
        have ew : w = w' := by omega
        subst ew
        have := (SQ_f b1.1 b1.2 q1 q2).mp (by omega)
        omega
      · intro e
        have ew : w = w' := by omega
        subst ew
        have := (SQ_f b1.1 b1.2 q1 q2).mpr (by omega)
        omega
    all_goals omega
  all_goals
    have b3 := hT.1
    rcases h2 with h2 | h2 | h2 | ⟨c', h2⟩ | ⟨c', k', h2⟩ | ⟨j', h2⟩ | ⟨j', c', h2⟩ | ⟨w', t', h2⟩ | ⟨j', h2⟩ | ⟨j', h2⟩ | ⟨j', c', r', h2⟩ | ⟨w', t', s', q', w2, t2, q2, h2⟩
    case inr.inr.inr.inr.inr.inr.inr.inr.inr.inr.inr =>
      have d1 := hT.2 w' w2
      have d2 := SQ_b d1.1 q2
      omega
    all_goals omega
def Jz (n : Nat) (T τ : Nat → Nat) (z : Nat) : Prop := ∃ w t q, w < n ∧ t < 5 ∧ q < 41 ∧ (∀ s, ¬ SQ (T w) (τ w) s q) ∧ z = 230 + 215 * w + 5 * q + t
def Jc (n : Nat) (T : Nat → Nat) (i : Nat) : Prop := ∃ w t s, w < 24 ∧ t < 5 ∧ s < 40 ∧ (n ≤ w ∨ T w ≤ s) ∧ i = (w * 40 + s) * 5 + t
set_option maxHeartbeats 8000000 in
theorem Pl_j {a i z : Nat} (hT : Tb n T) (h1 : Pl b n T τ a i z) : ¬ Jz n T τ z ∧ ¬ (a = b + 4 ∧ Jc n T i) := by
  have b3 := hT.1
  constructor
  · rintro ⟨w', t', q', w2, t2, q2, q3, h2⟩
    rcases h1 with h1 | h1 | h1 | ⟨c, h1⟩ | ⟨c, k, h1⟩ | ⟨j, h1⟩ | ⟨j, c, h1⟩ | ⟨w, t, h1⟩ | ⟨j, h1⟩ | ⟨j, h1⟩ | ⟨j, c, r, h1⟩ | ⟨w, t, s, q, w1, t1, q1, h1⟩
    case inr.inr.inr.inr.inr.inr.inr.inr.inr.inr.inr =>
      have b1 := hT.2 w w1
      have b2 := SQ_b b1.1 q1
      have ew : w = w' := by omega
      subst ew
      have eq : q = q' := by omega
      subst eq
      exact q3 s q1
    all_goals omega
  · rintro ⟨ea, w', t', s', w2, t2, s2, q3, h2⟩
    rcases h1 with h1 | h1 | h1 | ⟨c, h1⟩ | ⟨c, k, h1⟩ | ⟨j, h1⟩ | ⟨j, c, h1⟩ | ⟨w, t, h1⟩ | ⟨j, h1⟩ | ⟨j, h1⟩ | ⟨j, c, r, h1⟩ | ⟨w, t, s, q, w1, t1, q1, h1⟩
    case inr.inr.inr.inr.inr.inr.inr.inr.inr.inr.inr =>
      have b1 := hT.2 w w1
      have b2 := SQ_b b1.1 q1
      have ew : w = w' := by omega
      subst ew
      omega
    all_goals omega
/-- WATER at b stands for the row, in the middle of an HOUR -/
def HR (b n : Nat) (T τ : Nat → Nat) (C : C2) (Z : Z1) : Prop := (∀ a i z, Pl b n T τ a i z → C a i = Z z) ∧ (∀ z, Jz n T τ z → Z z = 0) ∧ ∀ i, Jc n T i → C (b + 4) i = 0
theorem HR.up {a i z : Nat} (hR : HR b n T τ C Z) (hT : Tb n T) (hP : Pl b n T τ a i z) (x : Nat) : HR b n T τ (upC C a i x) (upZ Z z x) := by
  obtain ⟨r1, r2, r3⟩ := hR
  have hj := Pl_j hT hP
  refine ⟨fun a' i' z' h' => ?_, fun z' h' => ?_, fun i' h' => ?_⟩
  · have hu := Pl_u hT h' hP
    unfold upC upZ
    by_cases q : a' = a ∧ i' = i
    · rw [if_pos q, if_pos (hu.mp q)]
    · rw [if_neg q, if_neg (fun e => q (hu.mpr e))]
      exact r1 a' i' z' h'
  · unfold upZ
    rw [if_neg (fun e => hj.1 (by rw [← e]; exact h'))]
    exact r2 z' h'
  · unfold upC
    rw [if_neg (fun e => hj.2 ⟨e.1.symm, by rw [← e.2]; exact h'⟩)]
    exact r3 i' h'
theorem HR.oc (hR : HR b n T τ C Z) (hC : ∀ a, b ≤ a → a ≤ b + 8 → C' a = C a) : HR b n T τ C' Z := by
  obtain ⟨r1, r2, r3⟩ := hR
  refine ⟨fun a i z h => ?_, r2, fun i h => by rw [hC _ (by omega) (by omega)]; exact r3 i h⟩
  rw [hC a ?_ ?_]
  · exact r1 a i z h
  · rcases h with h | h | h | ⟨c, h⟩ | ⟨c, k, h⟩ | ⟨j, h⟩ | ⟨j, c, h⟩ | ⟨w, t, h⟩ | ⟨j, h⟩ | ⟨j, h⟩ | ⟨j, c, r, h⟩ | ⟨w, t, s, q, w1, t1, q1, h⟩ <;> omega
  · rcases h with h | h | h | ⟨c, h⟩ | ⟨c, k, h⟩ | ⟨j, h⟩ | ⟨j, c, h⟩ | ⟨w, t, h⟩ | ⟨j, h⟩ | ⟨j, h⟩ | ⟨j, c, r, h⟩ | ⟨w, t, s, q, w1, t1, q1, h⟩ <;> omega
end P01
