/-! way: it makes an object -/
section OPSL
variable {h : mh_H} {TX : Nat → Nat → (Nat → Nat) → Z1 → Prop} {G G' F0 : F2} {C C' : C2} {Z Z' : Z1} {w b k M u : Nat}
def OkB (TX : Nat → Nat → (Nat → Nat) → Z1 → Prop) (Dc Dm : Nat → mh_H → Option (Int32 × mh_H)) : Prop := ∀ (N : Nat) (h : mh_H), 10000 ≤ N → mh_n h ≤ 500000 → Rel TX h → ∃ (v : Int32) (h1 h2 : mh_H), Sh h1 ∧ Dc N h = some (v, h1) ∧ Dm N h1 = some (v, h2) ∧ Rel TX h2 ∧ mh_n h2 ≤ mh_n h + 1 ∧ mh_z h2 ≤ mh_z h + 4
theorem OkB.rule {TX : Nat → Nat → (Nat → Nat) → Z1 → Prop} {Dc Dm : Nat → mh_H → Option (Int32 × mh_H)} (H : ∀ (N : Nat) (h : mh_H) (G : F2) (Z : Z1) (C : C2), 10000 ≤ N → mh_n h ≤ 500000 → Sh h → R_all TX h G Z C → (∃ (v : Int32) (G1 G2 : F2) (Z2 : Z1) (C1 : C2), Dc N (mh_w h (cz (gz G Z) C)) = some (v, mh_w h (cz (gz G1 Z) C1)) ∧ Dm N (mh_w h (gz (cz G1 C1) Z)) = some (v, mh_w h (gz (cz G2 C1) Z2)) ∧ R_all TX h G2 Z2 C1) ∨ ∃ (v : Int32) (h3 : mh_H) (G1 G2 : F2) (Z2 : Z1) (C1 : C2), Sh h3 ∧ Dc N (mh_w h (cz (gz G Z) C)) = some (v, mh_w h3 (cz (gz G1 Z) C1)) ∧ Dm N (mh_w h3 (gz (cz G1 C1) Z)) = some (v, mh_w h3 (gz (cz G2 C1) Z2)) ∧ R_all TX h3 G2 Z2 C1 ∧ mh_n h3 ≤ mh_n h + 1 ∧ mh_z h3 ≤ mh_z h + 4) : OkB TX Dc Dm := by
  intro N h hN hn hR
  obtain ⟨hs, G, Z, C, hi, hr⟩ := hR
  have e0 : mh_w h (cz (gz G Z) C) = h := by rw [← hi]; rfl
  rcases H N h G Z C hN hn hs hr with ⟨v, G1, G2, Z2, C1, e1, e2, hr2⟩ | ⟨v, h3, G1, G2, Z2, C1, hs3, e1, e2, hr2, n2, z2⟩
  · rw [e0] at e1
    refine ⟨v, _, mh_w h (gz (cz G2 C1) Z2), hs.w (cz (gz G1 Z) C1), e1, by rw [cz_gz]; exact e2, ⟨hs, G2, Z2, C1, (cz_gz _ _ _).symm, hr2⟩, ?_, ?_⟩
    · exact Nat.le_add_right _ _
    · exact Nat.le_add_right _ _
  · rw [e0] at e1
    exact ⟨v, _, mh_w h3 (gz (cz G2 C1) Z2), hs3.w (cz (gz G1 Z) C1), e1, by rw [cz_gz]; exact e2, ⟨hs3, G2, Z2, C1, (cz_gz _ _ _).symm, hr2⟩, n2, z2⟩
/-- a new way's fields -/
def wyF (F : F2) (p : Nat) (a b l n : Int32) : F2 := fun x y => if x = p then (if y = 0 then a else if y = 1 then b else if y = 2 then l else if y = 3 then n else 0) else F x y
theorem wyF_o (F : F2) {p x : Nat} {a b l n : Int32} (hx : x ≠ p) : wyF F p a b l n x = F x := by
  funext y
  exact if_neg hx
theorem wyF_cz (F : F2) (C : C2) {p : Nat} {a b l n : Int32} (hp : 105 ≤ p) : wyF (cz F C) p a b l n = cz (wyF F p a b l n) C := by
  funext x y
  unfold wyF cz
  try dsimp only
  by_cases q : x = p
  · rw [if_pos q, if_pos q, if_neg (show ¬ isN x = true by rw [q, isN_hi hp]; decide)]
  · rw [if_neg q, if_neg q]
theorem wyF_gz (F : F2) (Z : Z1) {p : Nat} {a b l n : Int32} (hp : 105 ≤ p) : wyF (gz F Z) p a b l n = gz (wyF F p a b l n) Z := by
  funext x y
  unfold wyF gz
  try dsimp only
  by_cases q : x = p
  · rw [if_pos q, if_pos q, if_neg (show ¬ (x = 87 ∧ y < 7770) by omega)]
  · rw [if_neg q, if_neg q]
theorem Rd_5 {k j r : Nat} (e : Rd k j = some r) : k ≠ 5 ∧ k < 105 := by
  unfold Rd at e
  cases e1 : rdL.find? (fun q => q.1 == k && q.2.1 == j) with
  | none => rw [e1] at e; cases e
  | some q =>
    have m := List.mem_of_find?_eq_some e1
    have t := List.find?_some e1
    rw [Bool.and_eq_true] at t
    have t1 := eq_of_beq t.1
    have := (by decide : ∀ q ∈ rdL, q.1 ≠ 5 ∧ q.1 < 105) q m
    rw [t1] at this
    exact this
theorem Sh_new (hs : Sh h) (kd w : Nat) : Sh (mh_sr (mh_new h kd 4) 5 w (some (mh_n h))) := by
  obtain ⟨h1, h2, h3⟩ := hs
  refine ⟨?_, fun k hk => ?_, fun k j r e => ?_⟩
  · show 105 ≤ mh_n h + 1
    omega
  · have hne : k ≠ mh_n h := by omega
    exact ⟨(if_neg hne).trans (h2 k hk).1, (if_neg hne).trans (h2 k hk).2⟩
  · obtain ⟨q1, q2⟩ := Rd_5 e
    have hne : k ≠ mh_n h := by omega
    show (if k = 5 ∧ j = w then some (mh_n h) else if k = mh_n h then none else mh_r h k j) = some r
    rw [if_neg (fun q => q1 q.1), if_neg hne]
    exact h3 k j r e
theorem Sh_new0 (hs : Sh h) (kd : Nat) : Sh (mh_new h kd 4) := by
  obtain ⟨h1, h2, h3⟩ := hs
  refine ⟨?_, fun k hk => ?_, fun k j r e => ?_⟩
  · show 105 ≤ mh_n h + 1
    omega
  · have hne : k ≠ mh_n h := by omega
    exact ⟨(if_neg hne).trans (h2 k hk).1, (if_neg hne).trans (h2 k hk).2⟩
  · obtain ⟨q1, q2⟩ := Rd_5 e
    have hne : k ≠ mh_n h := by omega
    exact (if_neg hne).trans (h3 k j r e)
theorem c_init (N : Nat) (F : F2) {kd : Nat} (hk : mh_isW kd = true) (a b l n : Int32) : D_X9_init N (mh_new (mh_w h F) kd 4) (mh_n h) a b l n = some (mh_w (mh_new h kd 4) (wyF F (mh_n h) a b l n)) := by
  have pw : ∀ (H : mh_H) (j : Nat) (x : Int32), mh_n H = mh_n h + 1 → mh_k H (mh_n h) = kd → pW H (mh_n h) j x = some (mh_si H (mh_n h) j x) := fun H j x e1 e2 => if_pos ⟨by rw [e1]; omega, by rw [e2]; exact hk⟩
  have k0 : mh_k (mh_new (mh_w h F) kd 4) (mh_n h) = kd := if_pos rfl
  unfold D_X9_init
  rw [pw _ 0 a rfl k0, some_bind, pw (mh_si (mh_new (mh_w h F) kd 4) (mh_n h) 0 a) 1 b rfl k0, some_bind, pw (mh_si (mh_si (mh_new (mh_w h F) kd 4) (mh_n h) 0 a) (mh_n h) 1 b) 2 l rfl k0, some_bind, pw (mh_si (mh_si (mh_si (mh_new (mh_w h F) kd 4) (mh_n h) 0 a) (mh_n h) 1 b) (mh_n h) 2 l) 3 n rfl k0, some_bind]
  refine congrArg some (Eq.trans (b := mh_w (mh_new h kd 4) (fun x y => if x = mh_n h ∧ y = 3 then n else if x = mh_n h ∧ y = 2 then l else if x = mh_n h ∧ y = 1 then b else if x = mh_n h ∧ y = 0 then a else if x = mh_n h then 0 else F x y)) rfl (congrArg _ (funext fun x => funext fun y => ?_)))
  unfold wyF
  by_cases q : x = mh_n h
  · simp only [q, true_and, if_true]
    by_cases y3 : y = 3
    · subst y3; rfl
    · by_cases y2 : y = 2
      · subst y2; rfl
      · by_cases y1 : y = 1
        · subst y1; rfl
        · simp only [y3, y2, y1, if_false]
  · simp only [q, false_and, if_false]
theorem c_make (hs : Sh h) (hn : mh_n h ≤ 500000) (N : Nat) (F : F2) {k : Nat} (hk : k ≤ 5) (a b l n : Int32) : D_X11_makeWay N (mh_w h F) (nI k) a b l n = some (mh_n h, mh_w (mh_new h (kc k) 4) (wyF F (mh_n h) a b l n)) := by
  have nw : ∀ ci, mh_N ci = 4 → nO (mh_w h F) ci = some (mh_new (mh_w h F) (ci + 2) 4) := fun ci e => by
    unfold nO
    rw [if_pos (show mh_n (mh_w h F) < 1000000000 by rw [mh_w_n]; omega), e]
  unfold D_X11_makeWay
  rcases (show k = 0 ∨ k = 1 ∨ k = 2 ∨ k = 3 ∨ k = 4 ∨ k = 5 by omega) with rfl | rfl | rfl | rfl | rfl | rfl
  · rw [if_neg (by decide), if_neg (by decide), if_neg (by decide), if_neg (by decide), if_neg (by decide), nw 9 rfl, some_bind, mh_w_n, c_init N F (by decide), some_bind]
    rfl
  · rw [if_pos (by decide), nw 2 rfl, some_bind, mh_w_n]
    unfold D_X2_init
    rw [c_init N F (by decide), some_bind, some_bind]
    rfl
  · rw [if_neg (by decide), if_pos (by decide), nw 7 rfl, some_bind, mh_w_n]
    unfold D_X7_init
    rw [c_init N F (by decide), some_bind, some_bind]
    rfl
  · rw [if_neg (by decide), if_neg (by decide), if_pos (by decide), nw 3 rfl, some_bind, mh_w_n]
    unfold D_X3_init D_X2_init
    rw [c_init N F (by decide), some_bind, some_bind, some_bind]
    rfl
  · rw [if_neg (by decide), if_neg (by decide), if_neg (by decide), if_pos (by decide), nw 4 rfl, some_bind, mh_w_n]
    unfold D_X4_init
    rw [c_init N F (by decide), some_bind, some_bind]
    rfl
  · rw [if_neg (by decide), if_neg (by decide), if_neg (by decide), if_neg (by decide), if_pos (by decide), nw 0 rfl, some_bind, mh_w_n]
    unfold D_X0_init D_X7_init
    rw [c_init N F (by decide), some_bind, some_bind, some_bind]
    rfl
theorem kc_W {k : Nat} (hk : k ≤ 5) : mh_isW (kc k) = true := (by decide : ∀ k, k ≤ 5 → mh_isW (kc k) = true) k hk
theorem c_addWay (hs : Sh h) (N : Nat) (F : F2) (C : C2) {kd w : Nat} (hk : mh_isW kd = true) (hw : C 1 1 = w) (h24 : w < 24) : D_X10_addWay N (mh_w (mh_new h kd 4) (cz F C)) 1 (mh_n h) = some (nI w, mh_w (mh_sr (mh_new h kd 4) 5 w (some (mh_n h))) (cz F (upC C 1 1 (w + 1)))) := by
  have hs2 := Sh_new0 hs kd
  have hs3 := Sh_new hs kd w
  have ur : uR (mh_w (mh_new h kd 4) (cz F C)) 5 (nI w) (mh_n h) = some (mh_w (mh_sr (mh_new h kd 4) 5 w (some (mh_n h))) (cz F C)) := by
    have e : (nI w).toNatClampNeg = w := nI_clamp (by omega)
    unfold uR
    rw [if_pos ⟨⟨⟨Nat.lt_of_lt_of_le (by decide) hs2.1, ((hs2.2.1 5 (by decide)).1).trans (by decide)⟩, by rw [mh_w_l, (hs2.2.1 5 (by decide)).2]; exact nI_bd (k := 24) h24 (by omega)⟩, ⟨Nat.lt_succ_self _, by rw [mh_w_k, show mh_k (mh_new h kd 4) (mh_n h) = kd from if_pos rfl]; exact hk⟩⟩, e]
    rfl
  unfold D_X10_addWay
  rw [gi_1 hs2, some_bind, hw, if_pos (show nI w < (24 : Int32) from (nI_ltI (b := 24) (by omega) (by decide)).mpr h24), gr_1_6 hs2, some_bind, some_bind, ur, some_bind, gi_1 hs3, some_bind, hw]
  show (pI _ 10 1 1 (nI w + nI 1)).bind _ = _
  rw [nI_add, pi_1 hs3, some_bind, gi_1 hs3, some_bind, upC_s]
  show some (nI (w + 1) - nI 1, _) = _
  rw [nI_sub (by omega), Nat.add_sub_cancel]
theorem R_way.mono {h3 : mh_H} (hR : R_way h G Z w) (hr : ∀ i, i < 24 → mh_r h3 (w + 4) i = mh_r h (w + 4) i) (hn : mh_n h ≤ mh_n h3) (hk : ∀ a, a < mh_n h → mh_k h3 a = mh_k h a) (hG : ∀ a, a < mh_n h → G' a = G a) : R_way h3 G' Z w := fun i hi => by
  obtain ⟨p, h1, h2, h3, h4, h5⟩ := hR i hi
  refine ⟨p, by rw [hr i hi]; exact h1, by omega, by rw [hk p h2]; exact h3, h4, fun q => ?_⟩
  rw [hG p h2, hk p h2]
  exact h5 q
theorem tot.zw {t : Nat} (hZ : ∀ i, i ∈ thL t → Z' i = Z i) : tot Z' t = tot Z t := by
  unfold tot
  congr 1
  exact List.map_congr_left hZ
end OPSL
