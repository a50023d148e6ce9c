/-! memories of natural numbers: the model's row m (G0, Z), the class's cells (F0, C) -/
abbrev Z1 : Type := Nat → Nat
abbrev C2 : Type := Nat → Nat → Nat
def upZ (Z : Z1) (i x : Nat) : Z1 := fun j => if j = i then x else Z j
def upC (C : C2) (a i x : Nat) : C2 := fun b j => if b = a ∧ j = i then x else C b j
/-- the model's ints: the row m by Z (but the numbers that wait), all else by G -/
def gz (G : F2) (Z : Z1) : F2 := fun a j => if a = 87 ∧ j < 7770 then nI (Z j) else G a j
/-- the class's cells that hold natural numbers alone -/
def isN (a : Nat) : Bool := a < 86 && !(a == 19 || a == 30 || a == 50 || a == 61 || a == 84 || a == 85)
def cz (G : F2) (C : C2) : F2 := fun a j => if isN a = true then nI (C a j) else G a j
theorem nI_addl (a n : Nat) : nI a + (no_index (OfNat.ofNat n) : Int32) = nI (a + OfNat.ofNat n) := nI_add a n
theorem nI_laddl (a n : Nat) : (no_index (OfNat.ofNat n) : Int32) + nI a = nI (OfNat.ofNat n + a) := nI_add n a
theorem nI_mull (a n : Nat) : nI a * (no_index (OfNat.ofNat n) : Int32) = nI (a * OfNat.ofNat n) := nI_mul a n
theorem nI_lmull (a n : Nat) : (no_index (OfNat.ofNat n) : Int32) * nI a = nI (OfNat.ofNat n * a) := nI_mul n a
theorem nI_lit (n : Nat) : (OfNat.ofNat n : Int32) = nI (OfNat.ofNat n) := rfl
theorem upZ_s (Z : Z1) (i x : Nat) : upZ Z i x i = x := if_pos rfl
theorem upZ_n {Z : Z1} {i x j : Nat} (h : j ≠ i) : upZ Z i x j = Z j := if_neg h
section MEM
variable {h : mh_H}
theorem mz_get (hs : Sh h) {G : F2} {Z : Z1} {i : Nat} (hi : i < 7770) : aI (mh_w h (gz G Z)) 87 (nI i) = some (nI (Z i)) := by
  rw [aI_s hs _ (by decide) (by decide) (show i < Ld 87 from Nat.lt_trans hi (by decide))]
  show some (if 87 = 87 ∧ i < 7770 then nI (Z i) else G 87 i) = _
  rw [if_pos ⟨rfl, hi⟩]
theorem mz_getl (hs : Sh h) {G : F2} {Z : Z1} {n : Nat} (hi : (OfNat.ofNat n : Nat) < 7770) : aI (mh_w h (gz G Z)) 87 (OfNat.ofNat n : Int32) = some (nI (Z (OfNat.ofNat n))) := mz_get hs hi
theorem gz_up (G : F2) (Z : Z1) {i x : Nat} (hi : i < 7770) : up2 (gz G Z) 87 i (nI x) = gz G (upZ Z i x) := by
  funext a j
  unfold up2 gz upZ
  try dsimp only
  by_cases h1 : a = 87 ∧ j = i
  · rw [if_pos h1, if_pos ⟨h1.1, by omega⟩, if_pos h1.2]
  · rw [if_neg h1]
    by_cases h2 : a = 87 ∧ j < 7770
    · rw [if_pos h2, if_pos h2, if_neg (fun q => h1 ⟨h2.1, q⟩)]
    · rw [if_neg h2, if_neg h2]
theorem mz_set (hs : Sh h) {G : F2} {Z : Z1} {i x : Nat} (hi : i < 7770) : uI (mh_w h (gz G Z)) 87 (nI i) (nI x) = some (mh_w h (gz G (upZ Z i x))) := by
  rw [uI_s hs _ (by decide) (by decide) (show i < Ld 87 from Nat.lt_trans hi (by decide)), gz_up G Z hi]
theorem mz_other (hs : Sh h) {G : F2} {Z : Z1} {a n : Nat} (ha : a < 105) (hk : Kd a = 0) (h84 : a ≠ 87) (hn : n < Ld a) : aI (mh_w h (gz G Z)) a (nI n) = some (G a n) := by
  rw [aI_s hs _ ha hk hn]
  show some (if a = 87 ∧ n < 7770 then nI (Z n) else G a n) = _
  rw [if_neg (fun q => h84 q.1)]
theorem gz_upo (G : F2) (Z : Z1) {a i : Nat} {x : Int32} (h84 : a ≠ 87) : up2 (gz G Z) a i x = gz (up2 G a i x) Z := by
  funext b j
  unfold up2 gz
  try dsimp only
  by_cases h1 : b = a ∧ j = i
  · rw [if_pos h1, if_neg (fun q => h84 (h1.1.symm.trans q.1)), if_pos h1]
  · rw [if_neg h1]
    by_cases h2 : b = 87 ∧ j < 7770
    · rw [if_pos h2, if_pos h2]
    · rw [if_neg h2, if_neg h2, if_neg h1]
theorem mz_seto (hs : Sh h) {G : F2} {Z : Z1} {a n : Nat} {x : Int32} (ha : a < 105) (hk : Kd a = 0) (h84 : a ≠ 87) (hn : n < Ld a) : uI (mh_w h (gz G Z)) a (nI n) x = some (mh_w h (gz (up2 G a n x) Z)) := by
  rw [uI_s hs _ ha hk hn, gz_upo G Z h84]
theorem cz_up (G : F2) (C : C2) {a i x : Nat} (ha : isN a = true) : up2 (cz G C) a i (nI x) = cz G (upC C a i x) := by
  funext b j
  unfold up2 cz upC
  try dsimp only
  by_cases h1 : b = a ∧ j = i
  · rw [if_pos h1, if_pos (by rw [h1.1]; exact ha), if_pos h1]
  · rw [if_neg h1]
    by_cases h2 : isN b = true
    · rw [if_pos h2, if_pos h2, if_neg h1]
    · rw [if_neg h2, if_neg h2]
theorem cz_upo (G : F2) (C : C2) {a i : Nat} {x : Int32} (ha : isN a = false) : up2 (cz G C) a i x = cz (up2 G a i x) C := by
  funext b j
  unfold up2 cz
  try dsimp only
  by_cases h1 : b = a ∧ j = i
  · rw [if_pos h1, if_neg (by rw [h1.1, ha]; decide), if_pos h1]
  · rw [if_neg h1]
    by_cases h2 : isN b = true
    · rw [if_pos h2, if_pos h2]
    · rw [if_neg h2, if_neg h2, if_neg h1]
theorem cz_gI (hs : Sh h) {G : F2} {C : C2} {ci a j : Nat} (ha : a < 105) (hk : Kd a = ci + 2) (hn : isN a = true) : gI (mh_w h (cz G C)) ci a j = some (nI (C a j)) := by
  rw [gI_s hs _ ha hk]
  show some (if isN a = true then nI (C a j) else G a j) = _
  rw [if_pos hn]
theorem cz_pI (hs : Sh h) {G : F2} {C : C2} {ci a j x : Nat} (ha : a < 105) (hk : Kd a = ci + 2) (hn : isN a = true) : pI (mh_w h (cz G C)) ci a j (nI x) = some (mh_w h (cz G (upC C a j x))) := by
  rw [pI_s hs _ ha hk, cz_up G C hn]
theorem cz_aI (hs : Sh h) {G : F2} {C : C2} {a n : Nat} (ha : a < 105) (hk : Kd a = 0) (hn : isN a = true) (hl : n < Ld a) : aI (mh_w h (cz G C)) a (nI n) = some (nI (C a n)) := by
  rw [aI_s hs _ ha hk hl]
  show some (if isN a = true then nI (C a n) else G a n) = _
  rw [if_pos hn]
theorem cz_uI (hs : Sh h) {G : F2} {C : C2} {a n x : Nat} (ha : a < 105) (hk : Kd a = 0) (hn : isN a = true) (hl : n < Ld a) : uI (mh_w h (cz G C)) a (nI n) (nI x) = some (mh_w h (cz G (upC C a n x))) := by
  rw [uI_s hs _ ha hk hl, cz_up G C hn]
theorem cz_aIo (hs : Sh h) {G : F2} {C : C2} {a n : Nat} (ha : a < 105) (hk : Kd a = 0) (hn : isN a = false) (hl : n < Ld a) : aI (mh_w h (cz G C)) a (nI n) = some (G a n) := by
  rw [aI_s hs _ ha hk hl]
  show some (if isN a = true then nI (C a n) else G a n) = _
  rw [hn]; rfl
theorem cz_uIo (hs : Sh h) {G : F2} {C : C2} {a n : Nat} {x : Int32} (ha : a < 105) (hk : Kd a = 0) (hn : isN a = false) (hl : n < Ld a) : uI (mh_w h (cz G C)) a (nI n) x = some (mh_w h (cz (up2 G a n x) C)) := by
  rw [uI_s hs _ ha hk hl, cz_upo G C hn]
end MEM
/-! an int as a natural number, or not one below a bound -/
theorem nI_lt_lit {a n : Nat} (ha : a < 2 ^ 31) (hn : (OfNat.ofNat n : Nat) < 2 ^ 31) : nI a < (OfNat.ofNat n : Int32) ↔ a < OfNat.ofNat n := nI_ltI ha hn
theorem nI_le_lit {a n : Nat} (ha : a < 2 ^ 31) (hn : (OfNat.ofNat n : Nat) < 2 ^ 31) : nI a ≤ (OfNat.ofNat n : Int32) ↔ a ≤ OfNat.ofNat n := nI_leI ha hn
theorem lit_le_nI {a n : Nat} (ha : a < 2 ^ 31) (hn : (OfNat.ofNat n : Nat) < 2 ^ 31) : (OfNat.ofNat n : Int32) ≤ nI a ↔ OfNat.ofNat n ≤ a := nI_leI hn ha
theorem lit_lt_nI {a n : Nat} (ha : a < 2 ^ 31) (hn : (OfNat.ofNat n : Nat) < 2 ^ 31) : (OfNat.ofNat n : Int32) < nI a ↔ OfNat.ofNat n < a := nI_ltI hn ha
theorem nI_eq_lit {a n : Nat} (ha : a < 2 ^ 31) (hn : (OfNat.ofNat n : Nat) < 2 ^ 31) : nI a = (OfNat.ofNat n : Int32) ↔ a = OfNat.ofNat n := nI_eq ha hn
/-- every int is below 0 or a natural number -/
theorem int_cases (x : Int32) : x < 0 ∨ ∃ n, n < 2 ^ 31 ∧ x = nI n := by
  by_cases h : x < 0
  · exact Or.inl h
  · exact Or.inr (nI_of h)
