/-! LAYER 2. The heap's shape behind both constructors: which cells stay what they are; ints alone change -/
def kdL : List Nat := [13, 12, 0, 0, 0, 1, 10, 0, 0, 0, 0, 0, 0, 0, 0, 0, 3, 0, 0, 0, 0, 0, 0, 8, 0, 8, 0, 8, 0, 8, 0, 11, 12, 0, 0, 0, 1, 10, 0, 0, 0, 0, 0, 0, 0, 0, 0, 3, 0, 0, 0, 0, 0, 0, 8, 0, 8, 0, 8, 0, 8, 0, 11, 10, 0, 0, 0, 0, 0, 0, 0, 0, 0, 7, 0, 8, 0, 0, 0, 8, 0, 0, 0, 0, 0, 0, 14, 0, 0, 0, 0, 0, 0, 0, 0, 0, 0, 0, 0, 0, 0, 0, 0, 0, 0]
def ldL : List Nat := [11, 13, 16, 16, 16, 24, 12, 4, 28, 80, 4800, 120, 16, 16, 1536, 24, 8, 160, 480, 3, 16, 5, 32, 2, 60, 2, 61, 2, 61, 2, 24, 4, 13, 16, 16, 16, 24, 12, 4, 28, 80, 4800, 120, 16, 16, 1536, 24, 8, 160, 480, 3, 16, 5, 32, 2, 60, 2, 61, 2, 61, 2, 24, 4, 12, 4, 28, 80, 4800, 120, 16, 16, 1536, 24, 9, 4, 2, 61, 61, 0, 2, 30, 7, 4, 4, 96, 16, 30, 7794, 7794, 7794, 7, 16, 24, 64, 12, 4, 64, 5, 5, 32, 16, 30, 4, 4, 96]
def Kd (k : Nat) : Nat := kdL.getD k 0
def Ld (k : Nat) : Nat := ldL.getD k 0
def rdL : List (Nat × Nat × Nat) := [(0, 0, 1), (0, 1, 32), (0, 2, 63), (0, 3, 73), (0, 4, 79), (0, 5, 81), (0, 6, 82), (0, 7, 83), (0, 8, 84), (0, 9, 85), (1, 3, 2), (1, 4, 3), (1, 5, 4), (1, 6, 5), (1, 7, 6), (1, 8, 16), (1, 9, 23), (1, 10, 25), (1, 11, 27), (1, 12, 29), (6, 3, 7), (6, 4, 8), (6, 5, 9), (6, 6, 10), (6, 7, 11), (6, 8, 12), (6, 9, 13), (6, 10, 14), (6, 11, 15), (16, 2, 17), (16, 3, 18), (16, 4, 19), (16, 5, 20), (16, 6, 21), (16, 7, 22), (23, 0, 24), (25, 0, 26), (27, 0, 28), (29, 0, 30), (32, 3, 33), (32, 4, 34), (32, 5, 35), (32, 6, 36), (32, 7, 37), (32, 8, 47), (32, 9, 54), (32, 10, 56), (32, 11, 58), (32, 12, 60), (37, 3, 38), (37, 4, 39), (37, 5, 40), (37, 6, 41), (37, 7, 42), (37, 8, 43), (37, 9, 44), (37, 10, 45), (37, 11, 46), (47, 2, 48), (47, 3, 49), (47, 4, 50), (47, 5, 51), (47, 6, 52), (47, 7, 53), (54, 0, 55), (56, 0, 57), (58, 0, 59), (60, 0, 61), (63, 3, 64), (63, 4, 65), (63, 5, 66), (63, 6, 67), (63, 7, 68), (63, 8, 69), (63, 9, 70), (63, 10, 71), (63, 11, 72), (73, 0, 74), (73, 1, 75), (73, 2, 77), (75, 0, 76), (79, 0, 80), (86, 0, 87), (86, 1, 88), (86, 2, 89), (86, 4, 90), (86, 5, 91), (86, 6, 92), (86, 7, 93), (86, 8, 94), (86, 15, 95), (86, 16, 96), (86, 17, 97), (86, 18, 98), (86, 19, 99), (86, 20, 100), (86, 21, 101), (86, 27, 102), (86, 28, 103), (86, 29, 104)]
def Rd (k j : Nat) : Option Nat := (rdL.find? (fun q => q.1 == k && q.2.1 == j)).map (fun q => q.2.2)
abbrev F2 : Type := Nat → Nat → Int32
/-- the heap with other ints -/
def mh_w (h : mh_H) (F : F2) : mh_H := (h.1, h.2.1, h.2.2.1, h.2.2.2.1, F, h.2.2.2.2.2)
def up2 (F : F2) (a j : Nat) (x : Int32) : F2 := fun a' j' => if a' = a ∧ j' = j then x else F a' j'
def Sh (h : mh_H) : Prop := 105 ≤ mh_n h ∧ (∀ k, k < 105 → mh_k h k = Kd k ∧ mh_l h k = Ld k) ∧ ∀ k j r, Rd k j = some r → mh_r h k j = some r
theorem mh_w_self (h : mh_H) : mh_w h (mh_i h) = h := rfl
theorem mh_w_w (h : mh_H) (F G : F2) : mh_w (mh_w h F) G = mh_w h G := rfl
theorem mh_w_i (h : mh_H) (F : F2) : mh_i (mh_w h F) = F := rfl
theorem mh_w_n (h : mh_H) (F : F2) : mh_n (mh_w h F) = mh_n h := rfl
theorem mh_w_z (h : mh_H) (F : F2) : mh_z (mh_w h F) = mh_z h := rfl
theorem mh_w_k (h : mh_H) (F : F2) : mh_k (mh_w h F) = mh_k h := rfl
theorem mh_w_l (h : mh_H) (F : F2) : mh_l (mh_w h F) = mh_l h := rfl
theorem mh_w_r (h : mh_H) (F : F2) : mh_r (mh_w h F) = mh_r h := rfl
theorem mh_si_w (h : mh_H) (F : F2) (a j : Nat) (x : Int32) : mh_si (mh_w h F) a j x = mh_w h (up2 F a j x) := rfl
theorem Sh.w {h : mh_H} (hs : Sh h) (F : F2) : Sh (mh_w h F) := hs
theorem up2_s (F : F2) (a j : Nat) (x : Int32) : up2 F a j x a j = x := if_pos ⟨rfl, rfl⟩
theorem up2_n {F : F2} {a j a' j' : Nat} {x : Int32} (h : ¬ (a' = a ∧ j' = j)) : up2 F a j x a' j' = F a' j' := if_neg h
theorem up2_a {F : F2} {a j a' j' : Nat} {x : Int32} (h : a' ≠ a) : up2 F a j x a' j' = F a' j' := if_neg fun q => h q.1
theorem up2_j {F : F2} {a j j' : Nat} {x : Int32} (h : j' ≠ j) : up2 F a j x a j' = F a j' := if_neg fun q => h q.2
theorem up2_e (F : F2) (a j j' : Nat) (x : Int32) : up2 F a j x a j' = if j' = j then x else F a j' := by
  by_cases h : j' = j
  · rw [if_pos h, h, up2_s]
  · rw [if_neg h, up2_j h]
section PURE
variable {h : mh_H}
theorem gI_s (hs : Sh h) (F : F2) {ci a j : Nat} (ha : a < 105) (hk : Kd a = ci + 2) : gI (mh_w h F) ci a j = some (F a j) := if_pos ⟨Nat.lt_of_lt_of_le ha hs.1, ((hs.2.1 a ha).1).trans hk⟩
theorem gR_s (hs : Sh h) (F : F2) {ci a j r : Nat} (ha : a < 105) (hk : Kd a = ci + 2) (hr : Rd a j = some r) : gR (mh_w h F) ci a j = some r := (if_pos ⟨Nat.lt_of_lt_of_le ha hs.1, ((hs.2.1 a ha).1).trans hk⟩).trans (hs.2.2 a j r hr)
theorem gR_v (hs : Sh h) (F : F2) {ci a j : Nat} (ha : a < 105) (hk : Kd a = ci + 2) : gR (mh_w h F) ci a j = mh_r h a j := if_pos ⟨Nat.lt_of_lt_of_le ha hs.1, ((hs.2.1 a ha).1).trans hk⟩
theorem pI_s (hs : Sh h) (F : F2) {ci a j : Nat} {x : Int32} (ha : a < 105) (hk : Kd a = ci + 2) : pI (mh_w h F) ci a j x = some (mh_w h (up2 F a j x)) := if_pos ⟨Nat.lt_of_lt_of_le ha hs.1, ((hs.2.1 a ha).1).trans hk⟩
theorem pB_s (hs : Sh h) (F : F2) {ci a j : Nat} {x : Int32} (ha : a < 105) (hk : Kd a = ci + 2) (hx : x = 0 ∨ x = 1) : pB (mh_w h F) ci a j x = some (mh_w h (up2 F a j x)) := if_pos ⟨⟨Nat.lt_of_lt_of_le ha hs.1, ((hs.2.1 a ha).1).trans hk⟩, hx⟩
theorem kO_s (hs : Sh h) (F : F2) {α : Type} {ci a : Nat} {f : Option α} (ha : a < 105) (hk : Kd a = ci + 2) : kO (mh_w h F) ci a f = f := if_pos ⟨Nat.lt_of_lt_of_le ha hs.1, ((hs.2.1 a ha).1).trans hk⟩
theorem nI_bd {n k : Nat} (h : n < k) (hk : k ≤ 2147483648) : ¬ (nI n < 0 ∨ k ≤ (nI n).toNatClampNeg) := by
  have h31 : n < 2 ^ 31 := by omega
  rintro (q | q)
  · exact nI_pos h31 q
  · rw [nI_clamp h31] at q; omega
theorem Ld_le (a : Nat) : Ld a ≤ 7794 := by
  unfold Ld
  rw [List.getD_eq_getElem?_getD]
  cases h : ldL[a]? with
  | none => exact Nat.zero_le _
  | some v =>
    have := List.mem_of_getElem? h
    exact (show ∀ v ∈ ldL, v ≤ 7794 by decide) v this
theorem aI_s (hs : Sh h) (F : F2) {a n : Nat} (ha : a < 105) (hk : Kd a = 0) (hn : n < Ld a) : aI (mh_w h F) a (nI n) = some (F a n) := by
  have hl := Ld_le a
  have e : (nI n).toNatClampNeg = n := nI_clamp (by omega)
  unfold aI
  rw [if_pos ⟨⟨Nat.lt_of_lt_of_le ha hs.1, ((hs.2.1 a ha).1).trans hk⟩, by rw [mh_w_l, (hs.2.1 a ha).2]; exact nI_bd hn (by omega)⟩, e]
  rfl
theorem uI_s (hs : Sh h) (F : F2) {a n : Nat} {x : Int32} (ha : a < 105) (hk : Kd a = 0) (hn : n < Ld a) : uI (mh_w h F) a (nI n) x = some (mh_w h (up2 F a n x)) := by
  have hl := Ld_le a
  have e : (nI n).toNatClampNeg = n := nI_clamp (by omega)
  unfold uI
  rw [if_pos ⟨⟨Nat.lt_of_lt_of_le ha hs.1, ((hs.2.1 a ha).1).trans hk⟩, by rw [mh_w_l, (hs.2.1 a ha).2]; exact nI_bd hn (by omega)⟩, e]
  rfl
theorem aL_s (hs : Sh h) (F : F2) {a : Nat} (ha : a < 105) (hk : Kd a = 0) : aL (mh_w h F) a = some (nI (Ld a)) := by
  unfold aL
  rw [if_pos ⟨Nat.lt_of_lt_of_le ha hs.1, Or.inl (((hs.2.1 a ha).1).trans hk)⟩, mh_w_l, (hs.2.1 a ha).2]
  rfl
theorem zB_0 : zB 0 h = some (0, h) := rfl
theorem zB_1 : zB 1 h = some (1, h) := rfl
end PURE
theorem nI_mul (a b : Nat) : nI a * nI b = nI (a * b) := by
  unfold nI
  rw [Int32.ofNat_mul]
/-! small methods of both -/
