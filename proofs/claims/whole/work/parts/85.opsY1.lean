section OPSY1
def bc1 (x : Nat) : Nat := x - (x / 2 ^ 1 &&& 1431655765)
def bc2 (v : Nat) : Nat := (v &&& 858993459) + (v / 2 ^ 2 &&& 858993459)
def bc3 (v : Nat) : Nat := (v + v / 2 ^ 4) &&& 252645135
def bc4 (v : Nat) : Nat := v + v / 2 ^ 8
def bc5 (v : Nat) : Nat := v + v / 2 ^ 16
def bcN (x : Nat) : Nat := bc5 (bc4 (bc3 (bc2 (bc1 x)))) &&& 63
def bcC (k : Nat) : Bool := (List.range 32).all fun a => (List.range 32).all fun b => bcN (1024 * k + 32 * a + b) == pcn (1024 * k + 32 * a + b)
set_option maxRecDepth 100000 in
theorem bc_0 : bcC 0 = true := by decide +kernel
set_option maxRecDepth 100000 in
theorem bc_1 : bcC 1 = true := by decide +kernel
set_option maxRecDepth 100000 in
theorem bc_2 : bcC 2 = true := by decide +kernel
set_option maxRecDepth 100000 in
theorem bc_3 : bcC 3 = true := by decide +kernel
set_option maxRecDepth 100000 in
theorem bc_4 : bcC 4 = true := by decide +kernel
set_option maxRecDepth 100000 in
theorem bc_5 : bcC 5 = true := by decide +kernel
set_option maxRecDepth 100000 in
theorem bc_6 : bcC 6 = true := by decide +kernel
set_option maxRecDepth 100000 in
theorem bc_7 : bcC 7 = true := by decide +kernel
set_option maxRecDepth 100000 in
theorem bc_8 : bcC 8 = true := by decide +kernel
set_option maxRecDepth 100000 in
theorem bc_9 : bcC 9 = true := by decide +kernel
set_option maxRecDepth 100000 in
theorem bc_10 : bcC 10 = true := by decide +kernel
set_option maxRecDepth 100000 in
theorem bc_11 : bcC 11 = true := by decide +kernel
set_option maxRecDepth 100000 in
theorem bc_12 : bcC 12 = true := by decide +kernel
set_option maxRecDepth 100000 in
theorem bc_13 : bcC 13 = true := by decide +kernel
set_option maxRecDepth 100000 in
theorem bc_14 : bcC 14 = true := by decide +kernel
set_option maxRecDepth 100000 in
theorem bc_15 : bcC 15 = true := by decide +kernel
set_option maxRecDepth 100000 in
theorem bc_16 : bcC 16 = true := by decide +kernel
set_option maxRecDepth 100000 in
theorem bc_17 : bcC 17 = true := by decide +kernel
set_option maxRecDepth 100000 in
theorem bc_18 : bcC 18 = true := by decide +kernel
set_option maxRecDepth 100000 in
theorem bc_19 : bcC 19 = true := by decide +kernel
set_option maxRecDepth 100000 in
theorem bc_20 : bcC 20 = true := by decide +kernel
set_option maxRecDepth 100000 in
theorem bc_21 : bcC 21 = true := by decide +kernel
set_option maxRecDepth 100000 in
theorem bc_22 : bcC 22 = true := by decide +kernel
set_option maxRecDepth 100000 in
theorem bc_23 : bcC 23 = true := by decide +kernel
set_option maxRecDepth 100000 in
theorem bc_24 : bcC 24 = true := by decide +kernel
set_option maxRecDepth 100000 in
theorem bc_25 : bcC 25 = true := by decide +kernel
set_option maxRecDepth 100000 in
theorem bc_26 : bcC 26 = true := by decide +kernel
set_option maxRecDepth 100000 in
theorem bc_27 : bcC 27 = true := by decide +kernel
set_option maxRecDepth 100000 in
theorem bc_28 : bcC 28 = true := by decide +kernel
set_option maxRecDepth 100000 in
theorem bc_29 : bcC 29 = true := by decide +kernel
set_option maxRecDepth 100000 in
theorem bc_30 : bcC 30 = true := by decide +kernel
set_option maxRecDepth 100000 in
theorem bc_31 : bcC 31 = true := by decide +kernel
set_option maxRecDepth 100000 in
theorem bc_32 : bcC 32 = true := by decide +kernel
set_option maxRecDepth 100000 in
theorem bc_33 : bcC 33 = true := by decide +kernel
set_option maxRecDepth 100000 in
theorem bc_34 : bcC 34 = true := by decide +kernel
set_option maxRecDepth 100000 in
theorem bc_35 : bcC 35 = true := by decide +kernel
set_option maxRecDepth 100000 in
theorem bc_36 : bcC 36 = true := by decide +kernel
set_option maxRecDepth 100000 in
theorem bc_37 : bcC 37 = true := by decide +kernel
set_option maxRecDepth 100000 in
theorem bc_38 : bcC 38 = true := by decide +kernel
set_option maxRecDepth 100000 in
theorem bc_39 : bcC 39 = true := by decide +kernel
set_option maxRecDepth 100000 in
theorem bc_40 : bcC 40 = true := by decide +kernel
set_option maxRecDepth 100000 in
theorem bc_41 : bcC 41 = true := by decide +kernel
set_option maxRecDepth 100000 in
theorem bc_42 : bcC 42 = true := by decide +kernel
set_option maxRecDepth 100000 in
theorem bc_43 : bcC 43 = true := by decide +kernel
set_option maxRecDepth 100000 in
theorem bc_44 : bcC 44 = true := by decide +kernel
set_option maxRecDepth 100000 in
theorem bc_45 : bcC 45 = true := by decide +kernel
set_option maxRecDepth 100000 in
theorem bc_46 : bcC 46 = true := by decide +kernel
set_option maxRecDepth 100000 in
theorem bc_47 : bcC 47 = true := by decide +kernel
set_option maxRecDepth 100000 in
theorem bc_48 : bcC 48 = true := by decide +kernel
set_option maxRecDepth 100000 in
theorem bc_49 : bcC 49 = true := by decide +kernel
set_option maxRecDepth 100000 in
theorem bc_50 : bcC 50 = true := by decide +kernel
set_option maxRecDepth 100000 in
theorem bc_51 : bcC 51 = true := by decide +kernel
set_option maxRecDepth 100000 in
theorem bc_52 : bcC 52 = true := by decide +kernel
set_option maxRecDepth 100000 in
theorem bc_53 : bcC 53 = true := by decide +kernel
set_option maxRecDepth 100000 in
theorem bc_54 : bcC 54 = true := by decide +kernel
set_option maxRecDepth 100000 in
theorem bc_55 : bcC 55 = true := by decide +kernel
set_option maxRecDepth 100000 in
theorem bc_56 : bcC 56 = true := by decide +kernel
set_option maxRecDepth 100000 in
theorem bc_57 : bcC 57 = true := by decide +kernel
set_option maxRecDepth 100000 in
theorem bc_58 : bcC 58 = true := by decide +kernel
set_option maxRecDepth 100000 in
theorem bc_59 : bcC 59 = true := by decide +kernel
set_option maxRecDepth 100000 in
theorem bc_60 : bcC 60 = true := by decide +kernel
set_option maxRecDepth 100000 in
theorem bc_61 : bcC 61 = true := by decide +kernel
set_option maxRecDepth 100000 in
theorem bc_62 : bcC 62 = true := by decide +kernel
set_option maxRecDepth 100000 in
theorem bc_63 : bcC 63 = true := by decide +kernel
theorem bc_k {k : Nat} (hk : k < 64) : bcC k = true := by
  match k, hk with
  | 0, _ => exact bc_0
  | 1, _ => exact bc_1
  | 2, _ => exact bc_2
  | 3, _ => exact bc_3
  | 4, _ => exact bc_4
  | 5, _ => exact bc_5
  | 6, _ => exact bc_6
  | 7, _ => exact bc_7
  | 8, _ => exact bc_8
  | 9, _ => exact bc_9
  | 10, _ => exact bc_10
  | 11, _ => exact bc_11
  | 12, _ => exact bc_12
  | 13, _ => exact bc_13
  | 14, _ => exact bc_14
  | 15, _ => exact bc_15
  | 16, _ => exact bc_16
  | 17, _ => exact bc_17
  | 18, _ => exact bc_18
  | 19, _ => exact bc_19
  | 20, _ => exact bc_20
  | 21, _ => exact bc_21
  | 22, _ => exact bc_22
  | 23, _ => exact bc_23
  | 24, _ => exact bc_24
  | 25, _ => exact bc_25
  | 26, _ => exact bc_26
  | 27, _ => exact bc_27
  | 28, _ => exact bc_28
  | 29, _ => exact bc_29
  | 30, _ => exact bc_30
  | 31, _ => exact bc_31
  | 32, _ => exact bc_32
  | 33, _ => exact bc_33
  | 34, _ => exact bc_34
  | 35, _ => exact bc_35
  | 36, _ => exact bc_36
  | 37, _ => exact bc_37
  | 38, _ => exact bc_38
  | 39, _ => exact bc_39
  | 40, _ => exact bc_40
  | 41, _ => exact bc_41
  | 42, _ => exact bc_42
  | 43, _ => exact bc_43
  | 44, _ => exact bc_44
  | 45, _ => exact bc_45
  | 46, _ => exact bc_46
  | 47, _ => exact bc_47
  | 48, _ => exact bc_48
  | 49, _ => exact bc_49
  | 50, _ => exact bc_50
  | 51, _ => exact bc_51
  | 52, _ => exact bc_52
  | 53, _ => exact bc_53
  | 54, _ => exact bc_54
  | 55, _ => exact bc_55
  | 56, _ => exact bc_56
  | 57, _ => exact bc_57
  | 58, _ => exact bc_58
  | 59, _ => exact bc_59
  | 60, _ => exact bc_60
  | 61, _ => exact bc_61
  | 62, _ => exact bc_62
  | 63, _ => exact bc_63
  | n + 64, h => omega
theorem bc_x {x : Nat} (hx : x < 2 ^ 16) : bcN x = pcn x := by
  have h1 := List.all_eq_true.mp (bc_k (k := x / 1024) (by omega)) (x / 32 % 32) (List.mem_range.mpr (by omega))
  have h2 := eq_of_beq (List.all_eq_true.mp h1 (x % 32) (List.mem_range.mpr (by omega)))
  rwa [show 1024 * (x / 1024) + 32 * (x / 32 % 32) + x % 32 = x by omega] at h2
theorem ushr {x : Nat} (hx : x < 2 ^ 32) (y : UInt32) (k : Nat) (hk : (y.toBitVec % 32).toNat = k) : ((nI x).toUInt32 >>> y).toInt32 = nI (x / 2 ^ k) := by
  apply Int32.toBitVec_inj.mp
  show (BitVec.ofNat 32 x) >>> (y.toBitVec % 32).toNat = BitVec.ofNat 32 (x / 2 ^ k)
  rw [hk]
  apply BitVec.eq_of_toNat_eq
  rw [BitVec.toNat_ushiftRight, BitVec.toNat_ofNat, BitVec.toNat_ofNat, Nat.mod_eq_of_lt hx, Nat.shiftRight_eq_div_pow, Nat.mod_eq_of_lt (Nat.lt_of_le_of_lt (Nat.div_le_self _ _) hx)]
theorem mh_let_e {α β : Type} (x : α) (f : α → Option β) : mh_let x f = f x := rfl
theorem bs1 {x : Nat} (hx : x < 2 ^ 16) : nI x - (((nI x).toUInt32 >>> ((1 : Int32).toUInt32 &&& Int32.toUInt32 31)).toInt32 &&& (1431655765 : Int32)) = nI (bc1 x) ∧ bc1 x < 2 ^ 16 := by
  have a1 : x / 2 ^ 1 &&& 1431655765 ≤ x := Nat.le_trans Nat.and_le_left (Nat.div_le_self _ _)
  rw [ushr (Nat.lt_trans hx (by decide)) _ 1 (by decide), lit 1431655765, nI_and, nI_sub a1]
  exact ⟨rfl, Nat.lt_of_le_of_lt (Nat.sub_le _ _) hx⟩
theorem bs2 {v : Nat} (hv : v < 2 ^ 16) : (nI v &&& (858993459 : Int32)) + (((nI v).toUInt32 >>> ((2 : Int32).toUInt32 &&& Int32.toUInt32 31)).toInt32 &&& (858993459 : Int32)) = nI (bc2 v) ∧ bc2 v < 2 ^ 17 := by
  rw [ushr (Nat.lt_trans hv (by decide)) _ 2 (by decide), lit 858993459, nI_and, nI_and, nI_add]
  refine ⟨rfl, ?_⟩
  unfold bc2
  have h1 : v &&& 858993459 ≤ v := Nat.and_le_left
  have h2 : v / 2 ^ 2 &&& 858993459 ≤ v / 2 ^ 2 := Nat.and_le_left
  omega
theorem bs3 {v : Nat} (hv : v < 2 ^ 17) : (nI v + ((nI v).toUInt32 >>> ((4 : Int32).toUInt32 &&& Int32.toUInt32 31)).toInt32) &&& (252645135 : Int32) = nI (bc3 v) ∧ bc3 v < 2 ^ 18 := by
  rw [ushr (Nat.lt_trans hv (by decide)) _ 4 (by decide), nI_add, lit 252645135, nI_and]
  refine ⟨rfl, ?_⟩
  unfold bc3
  have h1 : (v + v / 2 ^ 4) &&& 252645135 ≤ v + v / 2 ^ 4 := Nat.and_le_left
  omega
theorem bs4 {v : Nat} (hv : v < 2 ^ 18) : nI v + ((nI v).toUInt32 >>> ((8 : Int32).toUInt32 &&& Int32.toUInt32 31)).toInt32 = nI (bc4 v) ∧ bc4 v < 2 ^ 19 := by
  rw [ushr (Nat.lt_trans hv (by decide)) _ 8 (by decide), nI_add]
  refine ⟨rfl, ?_⟩
  unfold bc4
  omega
theorem bs5 {v : Nat} (hv : v < 2 ^ 19) : nI v + ((nI v).toUInt32 >>> ((16 : Int32).toUInt32 &&& Int32.toUInt32 31)).toInt32 = nI (bc5 v) := by
  rw [ushr (Nat.lt_trans hv (by decide)) _ 16 (by decide), nI_add]
  rfl
theorem bitCount_n (N : Nat) (H : mh_H) {x : Nat} (hx : x < 2 ^ 16) : D_J6_bitCount_0f7a4 N H (nI x) = some (nI (pcn x), H) := by
  rw [← bc_x hx]
  unfold D_J6_bitCount_0f7a4 bcN
  obtain ⟨e1, b1⟩ := bs1 hx
  obtain ⟨e2, b2⟩ := bs2 b1
  obtain ⟨e3, b3⟩ := bs3 b2
  obtain ⟨e4, b4⟩ := bs4 b3
  rw [mh_let_e, e1, mh_let_e, e2, mh_let_e, e3, mh_let_e, e4, mh_let_e, bs5 b4, lit 63, nI_and]
end OPSY1
