/-! THE RELATION between the class's cells (C, and G where they aren't natural numbers) and the reference's row (Z) -/
/-- the class of a way of a KIND, as the heap tells it -/
def kc (k : Nat) : Nat := match k with
  | 0 => 11
  | 1 => 4
  | 2 => 9
  | 3 => 5
  | 4 => 6
  | _ => 2
/-- HOURS that way i takes -/
def tk (Z : Z1) (i : Nat) : Nat := if Z (220 + 215 * i) = 1 ∨ Z (220 + 215 * i) = 3 then Z (223 + 215 * i) / 2 + 1 else if Z (220 + 215 * i) = 2 ∨ Z (220 + 215 * i) = 5 then 2 * Z (223 + 215 * i) else Z (223 + 215 * i)
/-- bounds of the row -/
def B_cnt (Z : Z1) : Prop := Z 0 ≤ 999 ∧ Z 1 ≤ 16 ∧ Z 2 ≤ 24 ∧ Z 3 ≤ 40 ∧ Z 4 ≤ 60 ∧ Z 5 ≤ 1 ∧ Z 6 ≤ 60 ∧ Z 7 ≤ 24 ∧ ∀ c, c < 4 → Z (10 + c) ≤ 99
def B_jnt (Z : Z1) : Prop := (∀ j, j < Z 1 → Z (44 + 11 * j) ≤ 3 ∧ Z (45 + 11 * j) ≤ 99 ∧ Z (46 + 11 * j) ≤ 99 ∧ Z (50 + 11 * j) ≤ 1 ∧ (Z (50 + 11 * j) = 1 → Z (44 + 11 * j) = 2)) ∧ (∀ j, Z 1 ≤ j → j < 16 → ∀ k, k < 11 → Z (44 + 11 * j + k) = 0) ∧ ∀ j, Z 1 ≤ j → j < 16 → ∀ k, k < 96 → Z (5380 + 96 * j + k) = 0
def B_way (Z : Z1) : Prop := (∀ i, i < Z 2 → Z (220 + 215 * i) ≤ 5 ∧ Z (221 + 215 * i) < Z 1 ∧ Z (222 + 215 * i) < Z 1 ∧ (1 ≤ Z (223 + 215 * i) ∧ Z (223 + 215 * i) ≤ 20) ∧ (1 ≤ Z (224 + 215 * i) ∧ Z (224 + 215 * i) ≤ 99) ∧ Z (44 + 11 * Z (221 + 215 * i)) ≤ 1 ∧ 1 ≤ Z (44 + 11 * Z (222 + 215 * i)) ∧ Z (46 + 11 * Z (222 + 215 * i)) < Z (46 + 11 * Z (221 + 215 * i))) ∧ ∀ i, Z 2 ≤ i → i < 24 → ∀ k, k < 215 → Z (220 + 215 * i + k) = 0
def B_put (Z : Z1) : Prop := (∀ p, p < Z 3 → Z (6916 + 4 * p) < Z 1 ∧ Z (44 + 11 * Z (6916 + 4 * p)) = 0 ∧ Z (6917 + 4 * p) < 4 ∧ (1 ≤ Z (6918 + 4 * p) ∧ Z (6918 + 4 * p) ≤ 9999) ∧ Z (6919 + 4 * p) ≤ Z 0) ∧ ∀ p, Z 3 ≤ p → p < 40 → ∀ k, k < 4 → Z (6916 + 4 * p + k) = 0
def B_look (Z : Z1) : Prop := (∀ l, l < Z 4 → Z (7076 + 8 * l) < Z 1 ∧ Z (44 + 11 * Z (7076 + 8 * l)) = 2 ∧ Z (7077 + 8 * l) < 4 ∧ Z (7078 + 8 * l) ≤ Z 0 ∧ Z (7079 + 8 * l) ≤ 24 ∧ Z (7080 + 8 * l) ≤ 1 ∧ Z (7081 + 8 * l) ≤ 1 ∧ Z (7082 + 8 * l) ≤ Z 3 ∧ (Z (7080 + 8 * l) = 1 → ∃ p, p < Z (7082 + 8 * l) ∧ Z (6917 + 4 * p) = Z (7077 + 8 * l))) ∧ ∀ l, Z 4 ≤ l → l < 60 → ∀ k, k < 8 → Z (7076 + 8 * l + k) = 0
/-- places in the row where thing t (0 WATER, 1 and a COLOUR) is: at joints, held, in ways -/
def thL (t : Nat) : List Nat := (List.range 16).map (fun j => if t = 0 then 47 + 11 * j else 50 + 11 * j + t) ++ (List.range 24).flatMap (fun i => (225 + 215 * i + t) :: (List.range 41).map (fun k => 230 + 215 * i + 5 * k + t))
def tot (Z : Z1) (t : Nat) : Nat := ((thL t).map Z).sum
/-- all water came as rain; all grains of a colour are somewhere -/
def B_sum (Z : Z1) : Prop := tot Z 0 ≤ 15984 * Z 0 ∧ ∀ c, c < 4 → tot Z (1 + c) ≤ 9999 * Z 3
/-- a colour that was never put is nowhere -/
def B_none (Z : Z1) : Prop := ∀ c, c < 4 → (∀ p, p < Z 3 → Z (6917 + 4 * p) ≠ c) → tot Z (1 + c) = 0 ∧ ∀ j, j < 16 → ∀ r, r < 24 → Z (5380 + 4 * (24 * j + r) + c) = 0
def B_all (Z : Z1) : Prop := B_cnt Z ∧ B_jnt Z ∧ B_way Z ∧ B_put Z ∧ B_look Z ∧ B_sum Z ∧ B_none Z
/-- joints, counts, towns: world at w -/
def R_jnt (C : C2) (Z : Z1) (w : Nat) : Prop := C w 0 = Z 1 ∧ C w 1 = Z 2 ∧ (∀ j, j < 16 → C (w + 1) j = Z (44 + 11 * j) ∧ C (w + 2) j = Z (45 + 11 * j) ∧ C (w + 3) j = Z (46 + 11 * j)) ∧ C w 2 < 65536 ∧ ∀ j, j < 16 → C w 2 / 2 ^ j % 2 = Z (50 + 11 * j)
/-- the ways themselves: objects of the heap -/
def R_way (h : mh_H) (G : F2) (Z : Z1) (w : Nat) : Prop := ∀ i, i < 24 → ∃ p, mh_r h (w + 4) i = some p ∧ p < mh_n h ∧ mh_isW (mh_k h p) = true ∧ (105 ≤ p ∨ p = 31 ∨ p = 62) ∧ (i < Z 2 → 105 ≤ p ∧ mh_k h p = kc (Z (220 + 215 * i)) ∧ G p 0 = nI (Z (221 + 215 * i)) ∧ G p 1 = nI (Z (222 + 215 * i)) ∧ G p 2 = nI (Z (223 + 215 * i)) ∧ G p 3 = nI (Z (224 + 215 * i)))
/-- water and grains: Water at b -/
def R_wat (C : C2) (Z : Z1) (b : Nat) : Prop := C b 0 = Z 0 ∧ C b 1 = Z 5 ∧ C b 2 = Z 8 ∧ (∀ c, c < 4 → C (b + 1) c = Z (10 + c)) ∧ (∀ c, c < 4 → ∀ k, k < 7 → k ≠ 1 → C (b + 2) (c * 7 + k) = Z (16 + 7 * c + k)) ∧ (∀ j, j < 16 → C (b + 3) (j * 5) = Z (47 + 11 * j) ∧ (∀ c, c < 4 → C (b + 3) (j * 5 + 1 + c) = Z (51 + 11 * j + c)) ∧ C (b + 6) j = Z (48 + 11 * j) ∧ C (b + 7) j = Z (49 + 11 * j) ∧ ∀ c, c < 4 → ∀ r, r < 24 → C (b + 8) ((j * 4 + c) * 24 + r) = Z (5380 + 4 * (24 * j + r) + c)) ∧ ∀ i, i < 24 → ∀ t, t < 5 → C (b + 5) (i * 5 + t) = Z (225 + 215 * i + t)
/-- what is inside a way: the class's ring is as long as the way takes, the reference's 41 -/
def R_ins (C : C2) (Z : Z1) (b : Nat) : Prop := ∀ i, i < 24 → ∀ t, t < 5 → (i < Z 2 → (∀ k, 1 ≤ k → k ≤ tk Z i → C (b + 4) ((i * 40 + (Z 0 + 40 * tk Z i - k) % tk Z i) * 5 + t) = Z (230 + 215 * i + 5 * ((Z 0 + 410 - k) % 41) + t)) ∧ (∀ r, tk Z i ≤ r → r < 40 → C (b + 4) ((i * 40 + r) * 5 + t) = 0) ∧ ∀ q, q < 41 → (∀ k, 1 ≤ k → k ≤ tk Z i → q ≠ (Z 0 + 410 - k) % 41) → Z (230 + 215 * i + 5 * q + t) = 0) ∧ (Z 2 ≤ i → ∀ r, r < 40 → C (b + 4) ((i * 40 + r) * 5 + t) = 0)
/-- the HOLES in which a COLOUR was put by the first n PUTS -/
def holesZ (Z : Z1) (c : Nat) : Nat → Nat
  | 0 => 0
  | n + 1 => if Z (6917 + 4 * n) = c then holesZ Z c n ||| 2 ^ Z (6916 + 4 * n) else holesZ Z c n
def R_look (C : C2) (Z : Z1) (k : Nat) : Prop := C k 0 = Z 3 ∧ C k 1 = Z 4 ∧ (∀ p, p < 40 → ∀ q, q < 4 → C (k + 1) (p * 4 + q) = Z (6916 + 4 * p + q)) ∧ ∀ l, l < 60 → (∀ q, q < 6 → C (k + 2) (l * 8 + q) = Z (7076 + 8 * l + q)) ∧ C (k + 2) (l * 8 + 6) = Z (7083 + 8 * l) ∧ (l < Z 4 → C (k + 2) (l * 8 + 7) = holesZ Z (Z (7077 + 8 * l)) (Z (7082 + 8 * l)))
def R_tape (C : C2) (Z : Z1) (k : Nat) : Prop := C k 1 = Z 6 ∧ ∀ i, i < Z 6 → C (k + 1) i = Z (7710 + i) ∧ Z (7710 + i) < 256
/-- a text of a use: none on both sides, or one that tells the same whatever its names stand for (TX: see there) -/
def R_txt (TX : Nat → Nat → (Nat → Nat) → Z1 → Prop) (C : C2) (Z : Z1) (u k : Nat) : Prop := (C k 1 = 0 ∧ Z (7556 + 77 * u) = 0) ∨ (1 ≤ C k 1 ∧ C k 1 ≤ 61 ∧ 1 ≤ Z (7556 + 77 * u) ∧ TX u (C k 1) (C (k + 1)) Z)
def R_wait (C : C2) (G : F2) (Z : Z1) (k M : Nat) : Prop := C k 1 = Z 7 ∧ ∀ i, i < Z 7 → G (k + 1) i = G M (7770 + i)
/-- a world at w, with its row: Z at M -/
def R_world (TX : Nat → Nat → (Nat → Nat) → Z1 → Prop) (h : mh_H) (G : F2) (C : C2) (Z : Z1) (w M : Nat) : Prop := B_all Z ∧ R_jnt C Z w ∧ R_way h G Z w ∧ R_wat C Z (w + 5) ∧ R_ins C Z (w + 5) ∧ R_look C Z (w + 15) ∧ R_tape C Z (w + 22) ∧ R_txt TX C Z 0 (w + 24) ∧ R_txt TX C Z 1 (w + 26) ∧ R_wait C G Z (w + 28) M
def R_err (G : F2) (C : C2) : Prop := ∀ k, 1 ≤ k → k ≤ 6 → G 90 k = nI (C 81 k)
def R_sheet (G : F2) (C : C2) : Prop := (∀ s, s < 4 → G 102 s = nI (C 82 s) ∧ (C 82 s = 0 ∨ C 82 s = 8 ∨ C 82 s = 16 ∨ C 82 s = 32) ∧ G 103 s = nI (C 83 s) ∧ C 83 s ≤ 24) ∧ ∀ i, i < 96 → G 104 i = G 84 i
def R_trace (G : F2) (C : C2) : Prop := C 79 1 ≤ 30 ∧ G 86 22 = nI (C 79 1) ∧ ∀ i, i < C 79 1 → G 101 i = nI (C 80 i)
def R_all (TX : Nat → Nat → (Nat → Nat) → Z1 → Prop) (h : mh_H) (G : F2) (Z : Z1) (C : C2) : Prop := R_err G C ∧ G 86 3 = nI (C 0 10) ∧ R_sheet G C ∧ R_trace G C ∧ R_world TX h G C Z 1 87 ∧ ∃ Zk : Z1, (∀ i, i < 7770 → G 88 i = nI (Zk i)) ∧ R_world TX h G C Zk 32 88
def Rel (TX : Nat → Nat → (Nat → Nat) → Z1 → Prop) (h : mh_H) : Prop := Sh h ∧ ∃ (G : F2) (Z : Z1) (C : C2), mh_i h = cz (gz G Z) C ∧ R_all TX h G Z C
/-- an act: class, then reference: one answer, the relation kept, at most one cell of four slots made -/
def Ok (TX : Nat → Nat → (Nat → Nat) → Z1 → Prop) (Dc Dm : Nat → mh_H → Option (Int32 × mh_H)) : Prop := ∀ (N : Nat) (h : mh_H), 10000 ≤ N → Rel TX h → ∃ (v : Int32) (h1 h2 : mh_H), Sh h1 ∧ Dc N h = some (v, h1) ∧ Dm N h1 = some (v, h2) ∧ Rel TX h2 ∧ mh_n h2 ≤ mh_n h + 1 ∧ mh_z h2 ≤ mh_z h + 4
theorem cz_gz (G : F2) (Z : Z1) (C : C2) : cz (gz G Z) C = gz (cz G C) Z := by
  funext a j
  unfold cz gz
  try dsimp only
  by_cases h1 : isN a = true
  · rw [if_pos h1]
    have h2 : ¬ (a = 87 ∧ j < 7770) := by
      rintro ⟨rfl, -⟩
      exact absurd h1 (by decide)
    rw [if_neg h2, if_pos h1]
  · rw [if_neg h1]
    by_cases h2 : a = 87 ∧ j < 7770
    · rw [if_pos h2, if_pos h2]
    · rw [if_neg h2, if_neg h2, if_neg h1]
/-- the rule of an act that makes no cell and moves no reference -/
theorem Ok.rule {TX : Nat → Nat → (Nat → Nat) → Z1 → Prop} {Dc Dm : Nat → mh_H → Option (Int32 × mh_H)} (H : ∀ (N : Nat) (h : mh_H) (G : F2) (Z : Z1) (C : C2), 10000 ≤ N → Sh h → R_all TX h G Z C → ∃ (v : Int32) (G1 G2 : F2) (Z2 : Z1) (C1 : C2), Dc N (mh_w h (cz (gz G Z) C)) = some (v, mh_w h (cz (gz G1 Z) C1)) ∧ Dm N (mh_w h (gz (cz G1 C1) Z)) = some (v, mh_w h (gz (cz G2 C1) Z2)) ∧ R_all TX h G2 Z2 C1) : Ok TX Dc Dm := by
  intro N h hN hR
  obtain ⟨hs, G, Z, C, hi, hr⟩ := hR
  obtain ⟨v, G1, G2, Z2, C1, e1, e2, hr2⟩ := H N h G Z C hN hs hr
  have e0 : mh_w h (cz (gz G Z) C) = h := by rw [← hi]; rfl
  rw [e0] at e1
  refine ⟨v, _, mh_w h (gz (cz G2 C1) Z2), hs.w (cz (gz G1 Z) C1), e1, by rw [cz_gz]; exact e2, ⟨hs, G2, Z2, C1, (cz_gz _ _ _).symm, hr2⟩, ?_, ?_⟩
  · exact Nat.le_add_right _ _
  · exact Nat.le_add_right _ _
