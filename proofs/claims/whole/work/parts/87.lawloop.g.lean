/-! the law's own loop, over the acts -/
theorem sI_0 {α : Type} {L i : Nat} {f : Option α} (h : i < L) (hL : L ≤ 384) : sI L (nI i) f = f := by
  unfold sI
  rw [if_neg (nI_bd h (by omega))]
theorem sI_l {α : Type} {L i n : Nat} {f : Option α} (h : i + (OfNat.ofNat n : Nat) < L) (hL : L ≤ 384) : sI L (nI i + (no_index (OfNat.ofNat n))) f = f := by
  rw [nI_addl]
  exact sI_0 h hL
theorem kO_h {α : Type} {h : mh_H} {ci a : Nat} {f : Option α} (hs : Sh h) (ha : a < 105) (hk : Kd a = ci + 2) : kO h ci a f = f := kO_s hs (mh_i h) ha hk
theorem k11 {α : Type} {h : mh_H} {f : Option α} (hs : Sh h) : kO h 11 0 f = f := kO_h hs (by decide) (by decide)
theorem k12 {α : Type} {h : mh_H} {f : Option α} (hs : Sh h) : kO h 12 86 f = f := kO_h hs (by decide) (by decide)
section LAW
variable {N L i : Nat} {xs : Nat → Int32} {h : mh_H} {k18 : mh_H → Nat → Nat → Int32 → Option (Int32 × mh_H)}
/-- a case of the law's switch: the act's answers are alike, and it goes on -/
def Case (N L i : Nat) (xs : Nat → Int32) (h : mh_H) (k18 : mh_H → Nat → Nat → Int32 → Option (Int32 × mh_H)) (D : Option (Int32 × mh_H)) : Prop := ∃ h2, Rel TXt h2 ∧ mh_n h2 ≤ mh_n h + 1 ∧ mh_z h2 ≤ mh_z h + 4 ∧ D = D_L_law_1901 N L xs k18 h2 0 86 (nI i)
theorem LB_0 (hTX : TXc TXt) (hTB : TXd TXt) (hN : 100000 ≤ N) (hn : mh_n h ≤ 500000) (hR : Rel TXt h) (hi : i + 6 ≤ L) (hL : L ≤ 384) : Case N L i xs h k18 (D_L_law_228 N L xs k18 h 0 86 (nI i)) := by
  obtain ⟨v, h1, h2, s1, e1, e2, r, n1, z1⟩ := Ok_joint hTX (xs (nI i + 1).toNatClampNeg) (xs (nI i + 2).toNatClampNeg) (xs (nI i + 3).toNatClampNeg) N h (by omega) hR
  refine ⟨h2, r, n1, z1, ?_⟩
  dsimp only at e1 e2
  unfold D_L_law_228
  simp only [sI_l (n := 1) (show i + 1 < L by omega) hL, sI_l (n := 2) (show i + 2 < L by omega) hL, sI_l (n := 3) (show i + 3 < L by omega) hL, sI_l (n := 4) (show i + 4 < L by omega) hL, sI_l (n := 5) (show i + 5 < L by omega) hL, k11 hR.1, k12 s1, e1, e2, some_bind, if_pos]
theorem LB_1 (hTX : TXc TXt) (hTB : TXd TXt) (hN : 100000 ≤ N) (hn : mh_n h ≤ 500000) (hR : Rel TXt h) (hi : i + 6 ≤ L) (hL : L ≤ 384) : Case N L i xs h k18 (D_L_law_271 N L xs k18 h 0 86 (nI i)) := by
  obtain ⟨v, h1, h2, s1, e1, e2, r, n1, z1⟩ := Ok_jointIs hTX (xs (nI i + 1).toNatClampNeg) (xs (nI i + 2).toNatClampNeg) N h (by omega) hR
  refine ⟨h2, r, n1, z1, ?_⟩
  dsimp only at e1 e2
  unfold D_L_law_271
  simp only [sI_l (n := 1) (show i + 1 < L by omega) hL, sI_l (n := 2) (show i + 2 < L by omega) hL, sI_l (n := 3) (show i + 3 < L by omega) hL, sI_l (n := 4) (show i + 4 < L by omega) hL, sI_l (n := 5) (show i + 5 < L by omega) hL, k11 hR.1, k12 s1, e1, e2, some_bind, if_pos]
theorem LB_2 (hTX : TXc TXt) (hTB : TXd TXt) (hN : 100000 ≤ N) (hn : mh_n h ≤ 500000) (hR : Rel TXt h) (hi : i + 6 ≤ L) (hL : L ≤ 384) : Case N L i xs h k18 (D_L_law_304 N L xs k18 h 0 86 (nI i)) := by
  obtain ⟨v, h1, h2, s1, e1, e2, r, n1, z1⟩ := Ok_way hTX (xs (nI i + 1).toNatClampNeg) (xs (nI i + 2).toNatClampNeg) (xs (nI i + 3).toNatClampNeg) (xs (nI i + 4).toNatClampNeg) N h (by omega) hn hR
  refine ⟨h2, r, n1, z1, ?_⟩
  dsimp only at e1 e2
  unfold D_L_law_304
  simp only [sI_l (n := 1) (show i + 1 < L by omega) hL, sI_l (n := 2) (show i + 2 < L by omega) hL, sI_l (n := 3) (show i + 3 < L by omega) hL, sI_l (n := 4) (show i + 4 < L by omega) hL, sI_l (n := 5) (show i + 5 < L by omega) hL, k11 hR.1, k12 s1, e1, e2, some_bind, if_pos]
theorem LB_3 (hTX : TXc TXt) (hTB : TXd TXt) (hN : 100000 ≤ N) (hn : mh_n h ≤ 500000) (hR : Rel TXt h) (hi : i + 6 ≤ L) (hL : L ≤ 384) : Case N L i xs h k18 (D_L_law_357 N L xs k18 h 0 86 (nI i)) := by
  obtain ⟨v, h1, h2, s1, e1, e2, r, n1, z1⟩ := Ok_as hTX (xs (nI i + 1).toNatClampNeg) (xs (nI i + 2).toNatClampNeg) N h (by omega) hR
  refine ⟨h2, r, n1, z1, ?_⟩
  dsimp only at e1 e2
  unfold D_L_law_357
  simp only [sI_l (n := 1) (show i + 1 < L by omega) hL, sI_l (n := 2) (show i + 2 < L by omega) hL, sI_l (n := 3) (show i + 3 < L by omega) hL, sI_l (n := 4) (show i + 4 < L by omega) hL, sI_l (n := 5) (show i + 5 < L by omega) hL, k11 hR.1, k12 s1, e1, e2, some_bind, if_pos]
theorem LB_4 (hTX : TXc TXt) (hTB : TXd TXt) (hN : 100000 ≤ N) (hn : mh_n h ≤ 500000) (hR : Rel TXt h) (hi : i + 6 ≤ L) (hL : L ≤ 384) : Case N L i xs h k18 (D_L_law_390 N L xs k18 h 0 86 (nI i)) := by
  obtain ⟨v, h1, h2, s1, e1, e2, r, n1, z1⟩ := Ok_wayIs hTX (xs (nI i + 1).toNatClampNeg) (xs (nI i + 2).toNatClampNeg) N h (by omega) hR
  refine ⟨h2, r, n1, z1, ?_⟩
  dsimp only at e1 e2
  unfold D_L_law_390
  simp only [sI_l (n := 1) (show i + 1 < L by omega) hL, sI_l (n := 2) (show i + 2 < L by omega) hL, sI_l (n := 3) (show i + 3 < L by omega) hL, sI_l (n := 4) (show i + 4 < L by omega) hL, sI_l (n := 5) (show i + 5 < L by omega) hL, k11 hR.1, k12 s1, e1, e2, some_bind, if_pos]
theorem LB_5 (hTX : TXc TXt) (hTB : TXd TXt) (hN : 100000 ≤ N) (hn : mh_n h ≤ 500000) (hR : Rel TXt h) (hi : i + 6 ≤ L) (hL : L ≤ 384) : Case N L i xs h k18 (D_L_law_423 N L xs k18 h 0 86 (nI i)) := by
  by_cases hb : xs (nI i + 2).toNatClampNeg = 0
  · obtain ⟨v, h1, h2, s1, e1, e2, r, n1, z1⟩ := Ok_hangs hTX (xs (nI i + 1).toNatClampNeg) 0 (by decide) N h (by omega) hR
    refine ⟨h2, r, n1, z1, ?_⟩
    dsimp only at e1 e2
    unfold D_L_law_423 D_L_law_442 D_L_law_464
    simp only [if_pos hb, sI_l (n := 1) (show i + 1 < L by omega) hL, sI_l (n := 2) (show i + 2 < L by omega) hL, sI_l (n := 3) (show i + 3 < L by omega) hL, sI_l (n := 4) (show i + 4 < L by omega) hL, sI_l (n := 5) (show i + 5 < L by omega) hL, k11 hR.1, k12 s1, e1, e2, some_bind, if_pos]
  · obtain ⟨v, h1, h2, s1, e1, e2, r, n1, z1⟩ := Ok_hangs hTX (xs (nI i + 1).toNatClampNeg) 1 (by decide) N h (by omega) hR
    refine ⟨h2, r, n1, z1, ?_⟩
    dsimp only at e1 e2
    unfold D_L_law_423 D_L_law_442 D_L_law_464
    simp only [if_neg hb, sI_l (n := 1) (show i + 1 < L by omega) hL, sI_l (n := 2) (show i + 2 < L by omega) hL, sI_l (n := 3) (show i + 3 < L by omega) hL, sI_l (n := 4) (show i + 4 < L by omega) hL, sI_l (n := 5) (show i + 5 < L by omega) hL, k11 hR.1, k12 s1, e1, e2, some_bind, if_pos]
theorem LB_6 (hTX : TXc TXt) (hTB : TXd TXt) (hN : 100000 ≤ N) (hn : mh_n h ≤ 500000) (hR : Rel TXt h) (hi : i + 6 ≤ L) (hL : L ≤ 384) : Case N L i xs h k18 (D_L_law_472 N L xs k18 h 0 86 (nI i)) := by
  obtain ⟨v, h1, h2, s1, e1, e2, r, n1, z1⟩ := Ok_quick hTX (xs (nI i + 1).toNatClampNeg) (xs (nI i + 2).toNatClampNeg) N h (by omega) hR
  refine ⟨h2, r, n1, z1, ?_⟩
  dsimp only at e1 e2
  unfold D_L_law_472
  simp only [sI_l (n := 1) (show i + 1 < L by omega) hL, sI_l (n := 2) (show i + 2 < L by omega) hL, sI_l (n := 3) (show i + 3 < L by omega) hL, sI_l (n := 4) (show i + 4 < L by omega) hL, sI_l (n := 5) (show i + 5 < L by omega) hL, k11 hR.1, k12 s1, e1, e2, some_bind, if_pos]
theorem LB_7 (hTX : TXc TXt) (hTB : TXd TXt) (hN : 100000 ≤ N) (hn : mh_n h ≤ 500000) (hR : Rel TXt h) (hi : i + 6 ≤ L) (hL : L ≤ 384) : Case N L i xs h k18 (D_L_law_505 N L xs k18 h 0 86 (nI i)) := by
  by_cases hb : xs (nI i + 1).toNatClampNeg = 0
  · obtain ⟨v, h1, h2, s1, e1, e2, r, n1, z1⟩ := Ok_flood hTX 0 (by decide) N h (by omega) hR
    refine ⟨h2, r, n1, z1, ?_⟩
    dsimp only at e1 e2
    unfold D_L_law_505 D_L_law_519 D_L_law_536
    simp only [if_pos hb, sI_l (n := 1) (show i + 1 < L by omega) hL, sI_l (n := 2) (show i + 2 < L by omega) hL, sI_l (n := 3) (show i + 3 < L by omega) hL, sI_l (n := 4) (show i + 4 < L by omega) hL, sI_l (n := 5) (show i + 5 < L by omega) hL, k11 hR.1, k12 s1, e1, e2, some_bind, if_pos]
  · obtain ⟨v, h1, h2, s1, e1, e2, r, n1, z1⟩ := Ok_flood hTX 1 (by decide) N h (by omega) hR
    refine ⟨h2, r, n1, z1, ?_⟩
    dsimp only at e1 e2
    unfold D_L_law_505 D_L_law_519 D_L_law_536
    simp only [if_neg hb, sI_l (n := 1) (show i + 1 < L by omega) hL, sI_l (n := 2) (show i + 2 < L by omega) hL, sI_l (n := 3) (show i + 3 < L by omega) hL, sI_l (n := 4) (show i + 4 < L by omega) hL, sI_l (n := 5) (show i + 5 < L by omega) hL, k11 hR.1, k12 s1, e1, e2, some_bind, if_pos]
theorem LB_8 (hTX : TXc TXt) (hTB : TXd TXt) (hN : 100000 ≤ N) (hn : mh_n h ≤ 500000) (hR : Rel TXt h) (hi : i + 6 ≤ L) (hL : L ≤ 384) : Case N L i xs h k18 (D_L_law_544 N L xs k18 h 0 86 (nI i)) := by
  obtain ⟨v, h1, h2, s1, e1, e2, r, n1, z1⟩ := Ok_fade hTX (xs (nI i + 1).toNatClampNeg) (xs (nI i + 2).toNatClampNeg) N h (by omega) hR
  refine ⟨h2, r, n1, z1, ?_⟩
  dsimp only at e1 e2
  unfold D_L_law_544
  simp only [sI_l (n := 1) (show i + 1 < L by omega) hL, sI_l (n := 2) (show i + 2 < L by omega) hL, sI_l (n := 3) (show i + 3 < L by omega) hL, sI_l (n := 4) (show i + 4 < L by omega) hL, sI_l (n := 5) (show i + 5 < L by omega) hL, k11 hR.1, k12 s1, e1, e2, some_bind, if_pos]
theorem LB_9 (hTX : TXc TXt) (hTB : TXd TXt) (hN : 100000 ≤ N) (hn : mh_n h ≤ 500000) (hR : Rel TXt h) (hi : i + 6 ≤ L) (hL : L ≤ 384) : Case N L i xs h k18 (D_L_law_577 N L xs k18 h 0 86 (nI i)) := by
  obtain ⟨v, h1, h2, s1, e1, e2, r, n1, z1⟩ := Ok_hours hTX (xs (nI i + 1).toNatClampNeg) N h (by omega) hR
  refine ⟨h2, r, n1, z1, ?_⟩
  dsimp only at e1 e2
  unfold D_L_law_577
  simp only [sI_l (n := 1) (show i + 1 < L by omega) hL, sI_l (n := 2) (show i + 2 < L by omega) hL, sI_l (n := 3) (show i + 3 < L by omega) hL, sI_l (n := 4) (show i + 4 < L by omega) hL, sI_l (n := 5) (show i + 5 < L by omega) hL, k11 hR.1, k12 s1, e1, e2, some_bind, if_pos]
theorem LB_10 (hTX : TXc TXt) (hTB : TXd TXt) (hN : 100000 ≤ N) (hn : mh_n h ≤ 500000) (hR : Rel TXt h) (hi : i + 6 ≤ L) (hL : L ≤ 384) : Case N L i xs h k18 (D_L_law_600 N L xs k18 h 0 86 (nI i)) := by
  obtain ⟨v, h1, h2, s1, e1, e2, r, n1, z1⟩ := Ok_put hTX (xs (nI i + 1).toNatClampNeg) (xs (nI i + 2).toNatClampNeg) (xs (nI i + 3).toNatClampNeg) N h (by omega) hR
  refine ⟨h2, r, n1, z1, ?_⟩
  dsimp only at e1 e2
  unfold D_L_law_600
  simp only [sI_l (n := 1) (show i + 1 < L by omega) hL, sI_l (n := 2) (show i + 2 < L by omega) hL, sI_l (n := 3) (show i + 3 < L by omega) hL, sI_l (n := 4) (show i + 4 < L by omega) hL, sI_l (n := 5) (show i + 5 < L by omega) hL, k11 hR.1, k12 s1, e1, e2, some_bind, if_pos]
theorem LB_11 (hTX : TXc TXt) (hTB : TXd TXt) (hN : 100000 ≤ N) (hn : mh_n h ≤ 500000) (hR : Rel TXt h) (hi : i + 6 ≤ L) (hL : L ≤ 384) : Case N L i xs h k18 (D_L_law_643 N L xs k18 h 0 86 (nI i)) := by
  obtain ⟨v, h1, h2, s1, e1, e2, r, n1, z1⟩ := Ok_putIs hTX (xs (nI i + 1).toNatClampNeg) (xs (nI i + 2).toNatClampNeg) N h (by omega) hR
  refine ⟨h2, r, n1, z1, ?_⟩
  dsimp only at e1 e2
  unfold D_L_law_643
  simp only [sI_l (n := 1) (show i + 1 < L by omega) hL, sI_l (n := 2) (show i + 2 < L by omega) hL, sI_l (n := 3) (show i + 3 < L by omega) hL, sI_l (n := 4) (show i + 4 < L by omega) hL, sI_l (n := 5) (show i + 5 < L by omega) hL, k11 hR.1, k12 s1, e1, e2, some_bind, if_pos]
theorem LB_12 (hTX : TXc TXt) (hTB : TXd TXt) (hN : 100000 ≤ N) (hn : mh_n h ≤ 500000) (hR : Rel TXt h) (hi : i + 6 ≤ L) (hL : L ≤ 384) : Case N L i xs h k18 (D_L_law_676 N L xs k18 h 0 86 (nI i)) := by
  obtain ⟨v, h1, h2, s1, e1, e2, r, n1, z1⟩ := Ok_pours hTX (xs (nI i + 1).toNatClampNeg) (xs (nI i + 2).toNatClampNeg) (xs (nI i + 3).toNatClampNeg) (xs (nI i + 4).toNatClampNeg) (xs (nI i + 5).toNatClampNeg) N h (by omega) hR
  refine ⟨h2, r, n1, z1, ?_⟩
  dsimp only at e1 e2
  unfold D_L_law_676
  simp only [sI_l (n := 1) (show i + 1 < L by omega) hL, sI_l (n := 2) (show i + 2 < L by omega) hL, sI_l (n := 3) (show i + 3 < L by omega) hL, sI_l (n := 4) (show i + 4 < L by omega) hL, sI_l (n := 5) (show i + 5 < L by omega) hL, k11 hR.1, k12 s1, e1, e2, some_bind, if_pos]
theorem LB_13 (hTX : TXc TXt) (hTB : TXd TXt) (hN : 100000 ≤ N) (hn : mh_n h ≤ 500000) (hR : Rel TXt h) (hi : i + 6 ≤ L) (hL : L ≤ 384) : Case N L i xs h k18 (D_L_law_739 N L xs k18 h 0 86 (nI i)) := by
  obtain ⟨v, h1, h2, s1, e1, e2, r, n1, z1⟩ := Ok_grains hTX (xs (nI i + 1).toNatClampNeg) (xs (nI i + 2).toNatClampNeg) N h (by omega) hR
  refine ⟨h2, r, n1, z1, ?_⟩
  dsimp only at e1 e2
  unfold D_L_law_739
  simp only [sI_l (n := 1) (show i + 1 < L by omega) hL, sI_l (n := 2) (show i + 2 < L by omega) hL, sI_l (n := 3) (show i + 3 < L by omega) hL, sI_l (n := 4) (show i + 4 < L by omega) hL, sI_l (n := 5) (show i + 5 < L by omega) hL, k11 hR.1, k12 s1, e1, e2, some_bind, if_pos]
theorem LB_14 (hTX : TXc TXt) (hTB : TXd TXt) (hN : 100000 ≤ N) (hn : mh_n h ≤ 500000) (hR : Rel TXt h) (hi : i + 6 ≤ L) (hL : L ≤ 384) : Case N L i xs h k18 (D_L_law_772 N L xs k18 h 0 86 (nI i)) := by
  obtain ⟨v, h1, h2, s1, e1, e2, r, n1, z1⟩ := Ok_stuff hTX (xs (nI i + 1).toNatClampNeg) (xs (nI i + 2).toNatClampNeg) N h (by omega) hR
  refine ⟨h2, r, n1, z1, ?_⟩
  dsimp only at e1 e2
  unfold D_L_law_772
  simp only [sI_l (n := 1) (show i + 1 < L by omega) hL, sI_l (n := 2) (show i + 2 < L by omega) hL, sI_l (n := 3) (show i + 3 < L by omega) hL, sI_l (n := 4) (show i + 4 < L by omega) hL, sI_l (n := 5) (show i + 5 < L by omega) hL, k11 hR.1, k12 s1, e1, e2, some_bind, if_pos]
theorem LB_15 (hTX : TXc TXt) (hTB : TXd TXt) (hN : 100000 ≤ N) (hn : mh_n h ≤ 500000) (hR : Rel TXt h) (hi : i + 6 ≤ L) (hL : L ≤ 384) : Case N L i xs h k18 (D_L_law_805 N L xs k18 h 0 86 (nI i)) := by
  obtain ⟨v, h1, h2, s1, e1, e2, r, n1, z1⟩ := Ok_out hTX (xs (nI i + 1).toNatClampNeg) (xs (nI i + 2).toNatClampNeg) (xs (nI i + 3).toNatClampNeg) N h (by omega) hR
  refine ⟨h2, r, n1, z1, ?_⟩
  dsimp only at e1 e2
  unfold D_L_law_805
  simp only [sI_l (n := 1) (show i + 1 < L by omega) hL, sI_l (n := 2) (show i + 2 < L by omega) hL, sI_l (n := 3) (show i + 3 < L by omega) hL, sI_l (n := 4) (show i + 4 < L by omega) hL, sI_l (n := 5) (show i + 5 < L by omega) hL, k11 hR.1, k12 s1, e1, e2, some_bind, if_pos]
theorem LB_16 (hTX : TXc TXt) (hTB : TXd TXt) (hN : 100000 ≤ N) (hn : mh_n h ≤ 500000) (hR : Rel TXt h) (hi : i + 6 ≤ L) (hL : L ≤ 384) : Case N L i xs h k18 (D_L_law_848 N L xs k18 h 0 86 (nI i)) := by
  obtain ⟨v, h1, h2, s1, e1, e2, r, n1, z1⟩ := Ok_spill hTX (xs (nI i + 1).toNatClampNeg) (xs (nI i + 2).toNatClampNeg) (xs (nI i + 3).toNatClampNeg) (xs (nI i + 4).toNatClampNeg) N h (by omega) hR
  refine ⟨h2, r, n1, z1, ?_⟩
  dsimp only at e1 e2
  unfold D_L_law_848
  simp only [sI_l (n := 1) (show i + 1 < L by omega) hL, sI_l (n := 2) (show i + 2 < L by omega) hL, sI_l (n := 3) (show i + 3 < L by omega) hL, sI_l (n := 4) (show i + 4 < L by omega) hL, sI_l (n := 5) (show i + 5 < L by omega) hL, k11 hR.1, k12 s1, e1, e2, some_bind, if_pos]
theorem LB_17 (hTX : TXc TXt) (hTB : TXd TXt) (hN : 100000 ≤ N) (hn : mh_n h ≤ 500000) (hR : Rel TXt h) (hi : i + 6 ≤ L) (hL : L ≤ 384) : Case N L i xs h k18 (D_L_law_901 N L xs k18 h 0 86 (nI i)) := by
  obtain ⟨v, h1, h2, s1, e1, e2, r, n1, z1⟩ := Ok_first hTX (xs (nI i + 1).toNatClampNeg) (xs (nI i + 2).toNatClampNeg) (xs (nI i + 3).toNatClampNeg) N h (by omega) hR
  refine ⟨h2, r, n1, z1, ?_⟩
  dsimp only at e1 e2
  unfold D_L_law_901
  simp only [sI_l (n := 1) (show i + 1 < L by omega) hL, sI_l (n := 2) (show i + 2 < L by omega) hL, sI_l (n := 3) (show i + 3 < L by omega) hL, sI_l (n := 4) (show i + 4 < L by omega) hL, sI_l (n := 5) (show i + 5 < L by omega) hL, k11 hR.1, k12 s1, e1, e2, some_bind, if_pos]
theorem LB_18 (hTX : TXc TXt) (hTB : TXd TXt) (hN : 100000 ≤ N) (hn : mh_n h ≤ 500000) (hR : Rel TXt h) (hi : i + 6 ≤ L) (hL : L ≤ 384) : Case N L i xs h k18 (D_L_law_944 N L xs k18 h 0 86 (nI i)) := by
  obtain ⟨v, h1, h2, s1, e1, e2, r, n1, z1⟩ := Ok_feed hTX (((xs (nI i + 1).toNatClampNeg).toInt64 <<< ((32 : Int32).toInt64 &&& 63)) ||| ((xs (nI i + 2).toNatClampNeg).toInt64 &&& (4294967295 : Int64))) (xs (nI i + 3).toNatClampNeg) N h (by omega) hR
  refine ⟨h2, r, n1, z1, ?_⟩
  dsimp only at e1 e2
  unfold D_L_law_944
  simp only [sI_l (n := 1) (show i + 1 < L by omega) hL, sI_l (n := 2) (show i + 2 < L by omega) hL, sI_l (n := 3) (show i + 3 < L by omega) hL, sI_l (n := 4) (show i + 4 < L by omega) hL, sI_l (n := 5) (show i + 5 < L by omega) hL, k11 hR.1, k12 s1, e1, e2, some_bind, if_pos]
theorem LB_19 (hTX : TXc TXt) (hTB : TXd TXt) (hN : 100000 ≤ N) (hn : mh_n h ≤ 500000) (hR : Rel TXt h) (hi : i + 6 ≤ L) (hL : L ≤ 384) : Case N L i xs h k18 (D_L_law_1007 N L xs k18 h 0 86 (nI i)) := by
  obtain ⟨v, h1, h2, s1, e1, e2, r, n1, z1⟩ := Ok_text hTX (xs (nI i + 1).toNatClampNeg) N h (by omega) hR
  refine ⟨h2, r, n1, z1, ?_⟩
  dsimp only at e1 e2
  unfold D_L_law_1007
  simp only [sI_l (n := 1) (show i + 1 < L by omega) hL, sI_l (n := 2) (show i + 2 < L by omega) hL, sI_l (n := 3) (show i + 3 < L by omega) hL, sI_l (n := 4) (show i + 4 < L by omega) hL, sI_l (n := 5) (show i + 5 < L by omega) hL, k11 hR.1, k12 s1, e1, e2, some_bind, if_pos]
theorem LB_20 (hTX : TXc TXt) (hTB : TXd TXt) (hN : 100000 ≤ N) (hn : mh_n h ≤ 500000) (hR : Rel TXt h) (hi : i + 6 ≤ L) (hL : L ≤ 384) : Case N L i xs h k18 (D_L_law_1030 N L xs k18 h 0 86 (nI i)) := by
  obtain ⟨v, h1, h2, s1, e1, e2, r, n1, z1⟩ := Ok_rain hTX (xs (nI i + 1).toNatClampNeg) N h (by omega) hR
  refine ⟨h2, r, n1, z1, ?_⟩
  dsimp only at e1 e2
  unfold D_L_law_1030
  simp only [sI_l (n := 1) (show i + 1 < L by omega) hL, sI_l (n := 2) (show i + 2 < L by omega) hL, sI_l (n := 3) (show i + 3 < L by omega) hL, sI_l (n := 4) (show i + 4 < L by omega) hL, sI_l (n := 5) (show i + 5 < L by omega) hL, k11 hR.1, k12 s1, e1, e2, some_bind, if_pos]
theorem LB_21 (hTX : TXc TXt) (hTB : TXd TXt) (hN : 100000 ≤ N) (hn : mh_n h ≤ 500000) (hR : Rel TXt h) (hi : i + 6 ≤ L) (hL : L ≤ 384) : Case N L i xs h k18 (D_L_law_1053 N L xs k18 h 0 86 (nI i)) := by
  obtain ⟨v, h1, h2, s1, e1, e2, r, n1, z1⟩ := Ok_seen hTX (xs (nI i + 1).toNatClampNeg) (xs (nI i + 2).toNatClampNeg) (xs (nI i + 3).toNatClampNeg) N h (by omega) hR
  refine ⟨h2, r, n1, z1, ?_⟩
  dsimp only at e1 e2
  unfold D_L_law_1053
  simp only [sI_l (n := 1) (show i + 1 < L by omega) hL, sI_l (n := 2) (show i + 2 < L by omega) hL, sI_l (n := 3) (show i + 3 < L by omega) hL, sI_l (n := 4) (show i + 4 < L by omega) hL, sI_l (n := 5) (show i + 5 < L by omega) hL, k11 hR.1, k12 s1, e1, e2, some_bind, if_pos]
theorem LB_22 (hTX : TXc TXt) (hTB : TXd TXt) (hN : 100000 ≤ N) (hn : mh_n h ≤ 500000) (hR : Rel TXt h) (hi : i + 6 ≤ L) (hL : L ≤ 384) : Case N L i xs h k18 (D_L_law_1096 N L xs k18 h 0 86 (nI i)) := by
  obtain ⟨v, h1, h2, s1, e1, e2, r, n1, z1⟩ := Ok_bottle hTX (xs (nI i + 1).toNatClampNeg) (xs (nI i + 2).toNatClampNeg) N h (by omega) hR
  refine ⟨h2, r, n1, z1, ?_⟩
  dsimp only at e1 e2
  unfold D_L_law_1096
  simp only [sI_l (n := 1) (show i + 1 < L by omega) hL, sI_l (n := 2) (show i + 2 < L by omega) hL, sI_l (n := 3) (show i + 3 < L by omega) hL, sI_l (n := 4) (show i + 4 < L by omega) hL, sI_l (n := 5) (show i + 5 < L by omega) hL, k11 hR.1, k12 s1, e1, e2, some_bind, if_pos]
theorem LB_23 (hTX : TXc TXt) (hTB : TXd TXt) (hN : 100000 ≤ N) (hn : mh_n h ≤ 500000) (hR : Rel TXt h) (hi : i + 6 ≤ L) (hL : L ≤ 384) : Case N L i xs h k18 (D_L_law_1129 N L xs k18 h 0 86 (nI i)) := by
  obtain ⟨v, h1, h2, s1, e1, e2, r, n1, z1⟩ := Ok_bag hTX (xs (nI i + 1).toNatClampNeg) (xs (nI i + 2).toNatClampNeg) (xs (nI i + 3).toNatClampNeg) N h (by omega) hR
  refine ⟨h2, r, n1, z1, ?_⟩
  dsimp only at e1 e2
  unfold D_L_law_1129
  simp only [sI_l (n := 1) (show i + 1 < L by omega) hL, sI_l (n := 2) (show i + 2 < L by omega) hL, sI_l (n := 3) (show i + 3 < L by omega) hL, sI_l (n := 4) (show i + 4 < L by omega) hL, sI_l (n := 5) (show i + 5 < L by omega) hL, k11 hR.1, k12 s1, e1, e2, some_bind, if_pos]
theorem LB_24 (hTX : TXc TXt) (hTB : TXd TXt) (hN : 100000 ≤ N) (hn : mh_n h ≤ 500000) (hR : Rel TXt h) (hi : i + 6 ≤ L) (hL : L ≤ 384) : Case N L i xs h k18 (D_L_law_1172 N L xs k18 h 0 86 (nI i)) := by
  obtain ⟨v, h1, h2, s1, e1, e2, r, n1, z1⟩ := Ok_lookIs hTX (xs (nI i + 1).toNatClampNeg) (xs (nI i + 2).toNatClampNeg) N h (by omega) hR
  refine ⟨h2, r, n1, z1, ?_⟩
  dsimp only at e1 e2
  unfold D_L_law_1172
  simp only [sI_l (n := 1) (show i + 1 < L by omega) hL, sI_l (n := 2) (show i + 2 < L by omega) hL, sI_l (n := 3) (show i + 3 < L by omega) hL, sI_l (n := 4) (show i + 4 < L by omega) hL, sI_l (n := 5) (show i + 5 < L by omega) hL, k11 hR.1, k12 s1, e1, e2, some_bind, if_pos]
theorem LB_25 (hTX : TXc TXt) (hTB : TXd TXt) (hN : 100000 ≤ N) (hn : mh_n h ≤ 500000) (hR : Rel TXt h) (hi : i + 6 ≤ L) (hL : L ≤ 384) : Case N L i xs h k18 (D_L_law_1205 N L xs k18 h 0 86 (nI i)) := by
  obtain ⟨v, h1, h2, s1, e1, e2, r, n1, z1⟩ := Ok_joined hTX (xs (nI i + 1).toNatClampNeg) (xs (nI i + 2).toNatClampNeg) (xs (nI i + 3).toNatClampNeg) N h (by omega) hR
  refine ⟨h2, r, n1, z1, ?_⟩
  dsimp only at e1 e2
  unfold D_L_law_1205
  simp only [sI_l (n := 1) (show i + 1 < L by omega) hL, sI_l (n := 2) (show i + 2 < L by omega) hL, sI_l (n := 3) (show i + 3 < L by omega) hL, sI_l (n := 4) (show i + 4 < L by omega) hL, sI_l (n := 5) (show i + 5 < L by omega) hL, k11 hR.1, k12 s1, e1, e2, some_bind, if_pos]
theorem LB_26 (hTX : TXc TXt) (hTB : TXd TXt) (hN : 100000 ≤ N) (hn : mh_n h ≤ 500000) (hR : Rel TXt h) (hi : i + 6 ≤ L) (hL : L ≤ 384) : Case N L i xs h k18 (D_L_law_1248 N L xs k18 h 0 86 (nI i)) := by
  obtain ⟨v, h1, h2, s1, e1, e2, r, n1, z1⟩ := Ok_never hTX (xs (nI i + 1).toNatClampNeg) (xs (nI i + 2).toNatClampNeg) N h (by omega) hR
  refine ⟨h2, r, n1, z1, ?_⟩
  dsimp only at e1 e2
  unfold D_L_law_1248
  simp only [sI_l (n := 1) (show i + 1 < L by omega) hL, sI_l (n := 2) (show i + 2 < L by omega) hL, sI_l (n := 3) (show i + 3 < L by omega) hL, sI_l (n := 4) (show i + 4 < L by omega) hL, sI_l (n := 5) (show i + 5 < L by omega) hL, k11 hR.1, k12 s1, e1, e2, some_bind, if_pos]
theorem LB_27 (hTX : TXc TXt) (hTB : TXd TXt) (hN : 100000 ≤ N) (hn : mh_n h ≤ 500000) (hR : Rel TXt h) (hi : i + 6 ≤ L) (hL : L ≤ 384) : Case N L i xs h k18 (D_L_law_1281 N L xs k18 h 0 86 (nI i)) := by
  obtain ⟨v, h1, h2, s1, e1, e2, r, n1, z1⟩ := Ok_span hTX (xs (nI i + 1).toNatClampNeg) (xs (nI i + 2).toNatClampNeg) (xs (nI i + 3).toNatClampNeg) (xs (nI i + 4).toNatClampNeg) N h (by omega) hR
  refine ⟨h2, r, n1, z1, ?_⟩
  dsimp only at e1 e2
  unfold D_L_law_1281
  simp only [sI_l (n := 1) (show i + 1 < L by omega) hL, sI_l (n := 2) (show i + 2 < L by omega) hL, sI_l (n := 3) (show i + 3 < L by omega) hL, sI_l (n := 4) (show i + 4 < L by omega) hL, sI_l (n := 5) (show i + 5 < L by omega) hL, k11 hR.1, k12 s1, e1, e2, some_bind, if_pos]
theorem LB_28 (hTX : TXc TXt) (hTB : TXd TXt) (hN : 100000 ≤ N) (hn : mh_n h ≤ 500000) (hR : Rel TXt h) (hi : i + 6 ≤ L) (hL : L ≤ 384) : Case N L i xs h k18 (D_L_law_1334 N L xs k18 h 0 86 (nI i)) := by
  obtain ⟨v, h1, h2, s1, e1, e2, r, n1, z1⟩ := Ok_musts hTX (xs (nI i + 1).toNatClampNeg) (xs (nI i + 2).toNatClampNeg) N h (by omega) hR
  refine ⟨h2, r, n1, z1, ?_⟩
  dsimp only at e1 e2
  unfold D_L_law_1334
  simp only [sI_l (n := 1) (show i + 1 < L by omega) hL, sI_l (n := 2) (show i + 2 < L by omega) hL, sI_l (n := 3) (show i + 3 < L by omega) hL, sI_l (n := 4) (show i + 4 < L by omega) hL, sI_l (n := 5) (show i + 5 < L by omega) hL, k11 hR.1, k12 s1, e1, e2, some_bind, if_pos]
theorem LB_29 (hTX : TXc TXt) (hTB : TXd TXt) (hN : 100000 ≤ N) (hn : mh_n h ≤ 500000) (hR : Rel TXt h) (hi : i + 6 ≤ L) (hL : L ≤ 384) : Case N L i xs h k18 (D_L_law_1367 N L xs k18 h 0 86 (nI i)) := by
  obtain ⟨v, h1, h2, s1, e1, e2, r, n1, z1⟩ := Ok_crosses hTX (xs (nI i + 1).toNatClampNeg) (xs (nI i + 2).toNatClampNeg) (xs (nI i + 3).toNatClampNeg) (xs (nI i + 4).toNatClampNeg) N h (by omega) hR
  refine ⟨h2, r, n1, z1, ?_⟩
  dsimp only at e1 e2
  unfold D_L_law_1367
  simp only [sI_l (n := 1) (show i + 1 < L by omega) hL, sI_l (n := 2) (show i + 2 < L by omega) hL, sI_l (n := 3) (show i + 3 < L by omega) hL, sI_l (n := 4) (show i + 4 < L by omega) hL, sI_l (n := 5) (show i + 5 < L by omega) hL, k11 hR.1, k12 s1, e1, e2, some_bind, if_pos]
theorem LB_30 (hTX : TXc TXt) (hTB : TXd TXt) (hN : 100000 ≤ N) (hn : mh_n h ≤ 500000) (hR : Rel TXt h) (hi : i + 6 ≤ L) (hL : L ≤ 384) : Case N L i xs h k18 (D_L_law_1420 N L xs k18 h 0 86 (nI i)) := by
  obtain ⟨v, h1, h2, s1, e1, e2, r, n1, z1⟩ := Ok_rooms hTX (xs (nI i + 1).toNatClampNeg) (xs (nI i + 2).toNatClampNeg) N h (by omega) hR
  refine ⟨h2, r, n1, z1, ?_⟩
  dsimp only at e1 e2
  unfold D_L_law_1420
  simp only [sI_l (n := 1) (show i + 1 < L by omega) hL, sI_l (n := 2) (show i + 2 < L by omega) hL, sI_l (n := 3) (show i + 3 < L by omega) hL, sI_l (n := 4) (show i + 4 < L by omega) hL, sI_l (n := 5) (show i + 5 < L by omega) hL, k11 hR.1, k12 s1, e1, e2, some_bind, if_pos]
theorem LB_31 (hTX : TXc TXt) (hTB : TXd TXt) (hN : 100000 ≤ N) (hn : mh_n h ≤ 500000) (hR : Rel TXt h) (hi : i + 6 ≤ L) (hL : L ≤ 384) : Case N L i xs h k18 (D_L_law_1453 N L xs k18 h 0 86 (nI i)) := by
  by_cases hb : xs (nI i + 2).toNatClampNeg = 0
  · obtain ⟨v, h1, h2, s1, e1, e2, r, n1, z1⟩ := Ok_town hTX (xs (nI i + 1).toNatClampNeg) 0 (by decide) N h (by omega) hR
    refine ⟨h2, r, n1, z1, ?_⟩
    dsimp only at e1 e2
    unfold D_L_law_1453 D_L_law_1472 D_L_law_1494
    simp only [if_pos hb, sI_l (n := 1) (show i + 1 < L by omega) hL, sI_l (n := 2) (show i + 2 < L by omega) hL, sI_l (n := 3) (show i + 3 < L by omega) hL, sI_l (n := 4) (show i + 4 < L by omega) hL, sI_l (n := 5) (show i + 5 < L by omega) hL, k11 hR.1, k12 s1, e1, e2, some_bind, if_pos]
  · obtain ⟨v, h1, h2, s1, e1, e2, r, n1, z1⟩ := Ok_town hTX (xs (nI i + 1).toNatClampNeg) 1 (by decide) N h (by omega) hR
    refine ⟨h2, r, n1, z1, ?_⟩
    dsimp only at e1 e2
    unfold D_L_law_1453 D_L_law_1472 D_L_law_1494
    simp only [if_neg hb, sI_l (n := 1) (show i + 1 < L by omega) hL, sI_l (n := 2) (show i + 2 < L by omega) hL, sI_l (n := 3) (show i + 3 < L by omega) hL, sI_l (n := 4) (show i + 4 < L by omega) hL, sI_l (n := 5) (show i + 5 < L by omega) hL, k11 hR.1, k12 s1, e1, e2, some_bind, if_pos]
theorem LB_32 (hTX : TXc TXt) (hTB : TXd TXt) (hN : 100000 ≤ N) (hn : mh_n h ≤ 500000) (hR : Rel TXt h) (hi : i + 6 ≤ L) (hL : L ≤ 384) : Case N L i xs h k18 (D_L_law_1502 N L xs k18 h 0 86 (nI i)) := by
  obtain ⟨v, h1, h2, s1, e1, e2, r, n1, z1⟩ := Ok_night hTX (xs (nI i + 1).toNatClampNeg) (xs (nI i + 2).toNatClampNeg) (xs (nI i + 3).toNatClampNeg) (N - 90000) h (by omega) hR
  refine ⟨h2, r, n1, z1, ?_⟩
  dsimp only at e1 e2
  rw [show N - 90000 + 90000 = N by omega] at e1 e2
  unfold D_L_law_1502
  simp only [sI_l (n := 1) (show i + 1 < L by omega) hL, sI_l (n := 2) (show i + 2 < L by omega) hL, sI_l (n := 3) (show i + 3 < L by omega) hL, sI_l (n := 4) (show i + 4 < L by omega) hL, sI_l (n := 5) (show i + 5 < L by omega) hL, k11 hR.1, k12 s1, e1, e2, some_bind, if_pos]
theorem LB_33 (hTX : TXc TXt) (hTB : TXd TXt) (hN : 100000 ≤ N) (hn : mh_n h ≤ 500000) (hR : Rel TXt h) (hi : i + 6 ≤ L) (hL : L ≤ 384) : Case N L i xs h k18 (D_L_law_1545 N L xs k18 h 0 86 (nI i)) := by
  obtain ⟨v, h1, h2, s1, e1, e2, r, n1, z1⟩ := Ok_share hTX (xs (nI i + 1).toNatClampNeg) N h (by omega) hR
  refine ⟨h2, r, n1, z1, ?_⟩
  dsimp only at e1 e2
  unfold D_L_law_1545
  simp only [sI_l (n := 1) (show i + 1 < L by omega) hL, sI_l (n := 2) (show i + 2 < L by omega) hL, sI_l (n := 3) (show i + 3 < L by omega) hL, sI_l (n := 4) (show i + 4 < L by omega) hL, sI_l (n := 5) (show i + 5 < L by omega) hL, k11 hR.1, k12 s1, e1, e2, some_bind, if_pos]
theorem LB_34 (hTX : TXc TXt) (hTB : TXd TXt) (hN : 100000 ≤ N) (hn : mh_n h ≤ 500000) (hR : Rel TXt h) (hi : i + 6 ≤ L) (hL : L ≤ 384) : Case N L i xs h k18 (D_L_law_1568 N L xs k18 h 0 86 (nI i)) := by
  obtain ⟨v, h1, h2, s1, e1, e2, r, n1, z1⟩ := Ok_voice hTX (xs (nI i + 1).toNatClampNeg) (xs (nI i + 2).toNatClampNeg) (xs (nI i + 3).toNatClampNeg) N h (by omega) hR
  refine ⟨h2, r, n1, z1, ?_⟩
  dsimp only at e1 e2
  unfold D_L_law_1568
  simp only [sI_l (n := 1) (show i + 1 < L by omega) hL, sI_l (n := 2) (show i + 2 < L by omega) hL, sI_l (n := 3) (show i + 3 < L by omega) hL, sI_l (n := 4) (show i + 4 < L by omega) hL, sI_l (n := 5) (show i + 5 < L by omega) hL, k11 hR.1, k12 s1, e1, e2, some_bind, if_pos]
theorem LB_35 (hTX : TXc TXt) (hTB : TXd TXt) (hN : 100000 ≤ N) (hn : mh_n h ≤ 500000) (hR : Rel TXt h) (hi : i + 6 ≤ L) (hL : L ≤ 384) : Case N L i xs h k18 (D_L_law_1611 N L xs k18 h 0 86 (nI i)) := by
  obtain ⟨v, h1, h2, s1, e1, e2, r, n1, z1⟩ := Ok_trace hTX (xs (nI i + 1).toNatClampNeg) N h (by omega) hR
  refine ⟨h2, r, n1, z1, ?_⟩
  dsimp only at e1 e2
  unfold D_L_law_1611
  simp only [sI_l (n := 1) (show i + 1 < L by omega) hL, sI_l (n := 2) (show i + 2 < L by omega) hL, sI_l (n := 3) (show i + 3 < L by omega) hL, sI_l (n := 4) (show i + 4 < L by omega) hL, sI_l (n := 5) (show i + 5 < L by omega) hL, k11 hR.1, k12 s1, e1, e2, some_bind, if_pos]
theorem LB_36 (hTX : TXc TXt) (hTB : TXd TXt) (hN : 100000 ≤ N) (hn : mh_n h ≤ 500000) (hR : Rel TXt h) (hi : i + 6 ≤ L) (hL : L ≤ 384) : Case N L i xs h k18 (D_L_law_1634 N L xs k18 h 0 86 (nI i)) := by
  obtain ⟨v, h1, h2, s1, e1, e2, r, n1, z1⟩ := Ok_sheet hTX (xs (nI i + 1).toNatClampNeg) (xs (nI i + 2).toNatClampNeg) (xs (nI i + 3).toNatClampNeg) N h (by omega) hR
  refine ⟨h2, r, n1, z1, ?_⟩
  dsimp only at e1 e2
  unfold D_L_law_1634
  simp only [sI_l (n := 1) (show i + 1 < L by omega) hL, sI_l (n := 2) (show i + 2 < L by omega) hL, sI_l (n := 3) (show i + 3 < L by omega) hL, sI_l (n := 4) (show i + 4 < L by omega) hL, sI_l (n := 5) (show i + 5 < L by omega) hL, k11 hR.1, k12 s1, e1, e2, some_bind, if_pos]
theorem LB_37 (hTX : TXc TXt) (hTB : TXd TXt) (hN : 100000 ≤ N) (hn : mh_n h ≤ 500000) (hR : Rel TXt h) (hi : i + 6 ≤ L) (hL : L ≤ 384) : Case N L i xs h k18 (D_L_law_1677 N L xs k18 h 0 86 (nI i)) := by
  obtain ⟨v, h1, h2, s1, e1, e2, r, n1, z1⟩ := Ok_place hTX (xs (nI i + 1).toNatClampNeg) (xs (nI i + 2).toNatClampNeg) (xs (nI i + 3).toNatClampNeg) N h (by omega) hR
  refine ⟨h2, r, n1, z1, ?_⟩
  dsimp only at e1 e2
  unfold D_L_law_1677
  simp only [sI_l (n := 1) (show i + 1 < L by omega) hL, sI_l (n := 2) (show i + 2 < L by omega) hL, sI_l (n := 3) (show i + 3 < L by omega) hL, sI_l (n := 4) (show i + 4 < L by omega) hL, sI_l (n := 5) (show i + 5 < L by omega) hL, k11 hR.1, k12 s1, e1, e2, some_bind, if_pos]
theorem LB_38 (hTX : TXc TXt) (hTB : TXd TXt) (hN : 100000 ≤ N) (hn : mh_n h ≤ 500000) (hR : Rel TXt h) (hi : i + 6 ≤ L) (hL : L ≤ 384) : Case N L i xs h k18 (D_L_law_1720 N L xs k18 h 0 86 (nI i)) := by
  obtain ⟨v, h1, h2, s1, e1, e2, r, n1, z1⟩ := Ok_move hTX (xs (nI i + 1).toNatClampNeg) (xs (nI i + 2).toNatClampNeg) (xs (nI i + 3).toNatClampNeg) (xs (nI i + 4).toNatClampNeg) (xs (nI i + 5).toNatClampNeg) N h (by omega) hR
  refine ⟨h2, r, n1, z1, ?_⟩
  dsimp only at e1 e2
  unfold D_L_law_1720
  simp only [sI_l (n := 1) (show i + 1 < L by omega) hL, sI_l (n := 2) (show i + 2 < L by omega) hL, sI_l (n := 3) (show i + 3 < L by omega) hL, sI_l (n := 4) (show i + 4 < L by omega) hL, sI_l (n := 5) (show i + 5 < L by omega) hL, k11 hR.1, k12 s1, e1, e2, some_bind, if_pos]
theorem LB_39 (hTX : TXc TXt) (hTB : TXd TXt) (hN : 100000 ≤ N) (hn : mh_n h ≤ 500000) (hR : Rel TXt h) (hi : i + 6 ≤ L) (hL : L ≤ 384) : Case N L i xs h k18 (D_L_law_1783 N L xs k18 h 0 86 (nI i)) := by
  obtain ⟨v, h1, h2, s1, e1, e2, r, n1, z1⟩ := Ok_image hTX hTB  N h (by omega) hR
  refine ⟨h2, r, n1, z1, ?_⟩
  dsimp only at e1 e2
  unfold D_L_law_1783
  simp only [sI_l (n := 1) (show i + 1 < L by omega) hL, sI_l (n := 2) (show i + 2 < L by omega) hL, sI_l (n := 3) (show i + 3 < L by omega) hL, sI_l (n := 4) (show i + 4 < L by omega) hL, sI_l (n := 5) (show i + 5 < L by omega) hL, k11 hR.1, k12 s1, e1, e2, some_bind, if_pos]
theorem LB_40 (hTX : TXc TXt) (hTB : TXd TXt) (hN : 100000 ≤ N) (hn : mh_n h ≤ 500000) (hR : Rel TXt h) (hi : i + 6 ≤ L) (hL : L ≤ 384) : Case N L i xs h k18 (D_L_law_1796 N L xs k18 h 0 86 (nI i)) := by
  obtain ⟨v, h1, h2, s1, e1, e2, r, n1, z1⟩ := Ok_restore hTX hTB  N h (by omega) hR
  refine ⟨h2, r, n1, z1, ?_⟩
  dsimp only at e1 e2
  unfold D_L_law_1796
  simp only [sI_l (n := 1) (show i + 1 < L by omega) hL, sI_l (n := 2) (show i + 2 < L by omega) hL, sI_l (n := 3) (show i + 3 < L by omega) hL, sI_l (n := 4) (show i + 4 < L by omega) hL, sI_l (n := 5) (show i + 5 < L by omega) hL, k11 hR.1, k12 s1, e1, e2, some_bind, if_pos]
theorem LB_41 (hTX : TXc TXt) (hTB : TXd TXt) (hN : 100000 ≤ N) (hn : mh_n h ≤ 500000) (hR : Rel TXt h) (hi : i + 6 ≤ L) (hL : L ≤ 384) : Case N L i xs h k18 (D_L_law_1809 N L xs k18 h 0 86 (nI i)) := by
  obtain ⟨v, h1, h2, s1, e1, e2, r, n1, z1⟩ := Ok_tell hTX (xs (nI i + 1).toNatClampNeg) N h (by omega) hR
  refine ⟨h2, r, n1, z1, ?_⟩
  dsimp only at e1 e2
  unfold D_L_law_1809
  simp only [sI_l (n := 1) (show i + 1 < L by omega) hL, sI_l (n := 2) (show i + 2 < L by omega) hL, sI_l (n := 3) (show i + 3 < L by omega) hL, sI_l (n := 4) (show i + 4 < L by omega) hL, sI_l (n := 5) (show i + 5 < L by omega) hL, k11 hR.1, k12 s1, e1, e2, some_bind, if_pos]
theorem LB_42 (hTX : TXc TXt) (hTB : TXd TXt) (hN : 100000 ≤ N) (hn : mh_n h ≤ 500000) (hR : Rel TXt h) (hi : i + 6 ≤ L) (hL : L ≤ 384) : Case N L i xs h k18 (D_L_law_1832 N L xs k18 h 0 86 (nI i)) := by
  obtain ⟨v, h1, h2, s1, e1, e2, r, n1, z1⟩ := Ok_check hTX (xs (nI i + 1).toNatClampNeg) N h (by omega) hR
  refine ⟨h2, r, n1, z1, ?_⟩
  dsimp only at e1 e2
  unfold D_L_law_1832
  simp only [sI_l (n := 1) (show i + 1 < L by omega) hL, sI_l (n := 2) (show i + 2 < L by omega) hL, sI_l (n := 3) (show i + 3 < L by omega) hL, sI_l (n := 4) (show i + 4 < L by omega) hL, sI_l (n := 5) (show i + 5 < L by omega) hL, k11 hR.1, k12 s1, e1, e2, some_bind, if_pos]
theorem LB_43 (hTX : TXc TXt) (hTB : TXd TXt) (hN : 100000 ≤ N) (hn : mh_n h ≤ 500000) (hR : Rel TXt h) (hi : i + 6 ≤ L) (hL : L ≤ 384) : Case N L i xs h k18 (D_L_law_1855 N L xs k18 h 0 86 (nI i)) := by
  obtain ⟨v, h1, h2, s1, e1, e2, r, n1, z1⟩ := Ok_count hTX (xs (nI i + 1).toNatClampNeg) N h (by omega) hR
  refine ⟨h2, r, n1, z1, ?_⟩
  dsimp only at e1 e2
  unfold D_L_law_1855
  simp only [sI_l (n := 1) (show i + 1 < L by omega) hL, sI_l (n := 2) (show i + 2 < L by omega) hL, sI_l (n := 3) (show i + 3 < L by omega) hL, sI_l (n := 4) (show i + 4 < L by omega) hL, sI_l (n := 5) (show i + 5 < L by omega) hL, k11 hR.1, k12 s1, e1, e2, some_bind, if_pos]
theorem LB_44 (hTX : TXc TXt) (hTB : TXd TXt) (hN : 100000 ≤ N) (hn : mh_n h ≤ 500000) (hR : Rel TXt h) (hi : i + 6 ≤ L) (hL : L ≤ 384) : Case N L i xs h k18 (D_L_law_1878 N L xs k18 h 0 86 (nI i)) := by
  obtain ⟨v, h1, h2, s1, e1, e2, r, n1, z1⟩ := Ok_told hTX (xs (nI i + 1).toNatClampNeg) N h (by omega) hR
  refine ⟨h2, r, n1, z1, ?_⟩
  dsimp only at e1 e2
  unfold D_L_law_1878
  simp only [sI_l (n := 1) (show i + 1 < L by omega) hL, sI_l (n := 2) (show i + 2 < L by omega) hL, sI_l (n := 3) (show i + 3 < L by omega) hL, sI_l (n := 4) (show i + 4 < L by omega) hL, sI_l (n := 5) (show i + 5 < L by omega) hL, k11 hR.1, k12 s1, e1, e2, some_bind, if_pos]
set_option maxHeartbeats 4000000 in
theorem law_step (hTX : TXc TXt) (hTB : TXd TXt) (hN : 100000 ≤ N) (hn : mh_n h ≤ 500000) (hR : Rel TXt h) (hi : i + 6 ≤ L) (hL : L ≤ 384) (F : Nat) : ∃ h2, Rel TXt h2 ∧ mh_n h2 ≤ mh_n h + 1 ∧ mh_z h2 ≤ mh_z h + 4 ∧ D_L_law_18 N L xs (F + 1) h 0 86 (nI i) = D_L_law_18 N L xs F h2 0 86 (nI (i + 6)) := by
  have fin : ∀ {D}, Case N L i xs h (D_L_law_18 N L xs F) D → ∃ h2, Rel TXt h2 ∧ mh_n h2 ≤ mh_n h + 1 ∧ mh_z h2 ≤ mh_z h + 4 ∧ D = D_L_law_18 N L xs F h2 0 86 (nI (i + 6)) := by
    rintro D ⟨h2, r, n1, z1, e⟩
    refine ⟨h2, r, n1, z1, ?_⟩
    rw [e]
    unfold D_L_law_1901
    rw [show Int32.ofInt 6 = (6 : Int32) from rfl, nI_addl]
  have c0 : ¬ ((Int32.ofNat L) - (6 : Int32)) < nI i := by
    obtain ⟨k, hk⟩ : ∃ k, L = k + 6 := ⟨L - 6, by omega⟩
    have e : Int32.ofNat L - (6 : Int32) = nI k := by
      rw [hk]
      show nI (k + 6) - nI 6 = nI k
      rw [← nI_add]
      exact Int32.add_sub_cancel _ _
    rw [e]
    exact nI_nlt (by omega) (by omega)
  rw [D_L_law_18, if_neg c0, sI_0 (by omega) hL]
  by_cases c0 : xs (nI i).toNatClampNeg &&& 63 = 0
  · rw [if_pos c0]; exact fin (LB_0 hTX hTB hN hn hR hi hL)
  rw [if_neg c0]
  by_cases c1 : xs (nI i).toNatClampNeg &&& 63 = 1
  · rw [if_pos c1]; exact fin (LB_1 hTX hTB hN hn hR hi hL)
  rw [if_neg c1]
  by_cases c2 : xs (nI i).toNatClampNeg &&& 63 = 2
  · rw [if_pos c2]; exact fin (LB_2 hTX hTB hN hn hR hi hL)
  rw [if_neg c2]
  by_cases c3 : xs (nI i).toNatClampNeg &&& 63 = 3
  · rw [if_pos c3]; exact fin (LB_3 hTX hTB hN hn hR hi hL)
  rw [if_neg c3]
  by_cases c4 : xs (nI i).toNatClampNeg &&& 63 = 4
  · rw [if_pos c4]; exact fin (LB_4 hTX hTB hN hn hR hi hL)
  rw [if_neg c4]
  by_cases c5 : xs (nI i).toNatClampNeg &&& 63 = 5
  · rw [if_pos c5]; exact fin (LB_5 hTX hTB hN hn hR hi hL)
  rw [if_neg c5]
  by_cases c6 : xs (nI i).toNatClampNeg &&& 63 = 6
  · rw [if_pos c6]; exact fin (LB_6 hTX hTB hN hn hR hi hL)
  rw [if_neg c6]
  by_cases c7 : xs (nI i).toNatClampNeg &&& 63 = 7
  · rw [if_pos c7]; exact fin (LB_7 hTX hTB hN hn hR hi hL)
  rw [if_neg c7]
  by_cases c8 : xs (nI i).toNatClampNeg &&& 63 = 8
  · rw [if_pos c8]; exact fin (LB_8 hTX hTB hN hn hR hi hL)
  rw [if_neg c8]
  by_cases c9 : xs (nI i).toNatClampNeg &&& 63 = 9
  · rw [if_pos c9]; exact fin (LB_9 hTX hTB hN hn hR hi hL)
  rw [if_neg c9]
  by_cases c10 : xs (nI i).toNatClampNeg &&& 63 = 10
  · rw [if_pos c10]; exact fin (LB_10 hTX hTB hN hn hR hi hL)
  rw [if_neg c10]
  by_cases c11 : xs (nI i).toNatClampNeg &&& 63 = 11
  · rw [if_pos c11]; exact fin (LB_11 hTX hTB hN hn hR hi hL)
  rw [if_neg c11]
  by_cases c12 : xs (nI i).toNatClampNeg &&& 63 = 12
  · rw [if_pos c12]; exact fin (LB_12 hTX hTB hN hn hR hi hL)
  rw [if_neg c12]
  by_cases c13 : xs (nI i).toNatClampNeg &&& 63 = 13
  · rw [if_pos c13]; exact fin (LB_13 hTX hTB hN hn hR hi hL)
  rw [if_neg c13]
  by_cases c14 : xs (nI i).toNatClampNeg &&& 63 = 14
  · rw [if_pos c14]; exact fin (LB_14 hTX hTB hN hn hR hi hL)
  rw [if_neg c14]
  by_cases c15 : xs (nI i).toNatClampNeg &&& 63 = 15
  · rw [if_pos c15]; exact fin (LB_15 hTX hTB hN hn hR hi hL)
  rw [if_neg c15]
  by_cases c16 : xs (nI i).toNatClampNeg &&& 63 = 16
  · rw [if_pos c16]; exact fin (LB_16 hTX hTB hN hn hR hi hL)
  rw [if_neg c16]
  by_cases c17 : xs (nI i).toNatClampNeg &&& 63 = 17
  · rw [if_pos c17]; exact fin (LB_17 hTX hTB hN hn hR hi hL)
  rw [if_neg c17]
  by_cases c18 : xs (nI i).toNatClampNeg &&& 63 = 18
  · rw [if_pos c18]; exact fin (LB_18 hTX hTB hN hn hR hi hL)
  rw [if_neg c18]
  by_cases c19 : xs (nI i).toNatClampNeg &&& 63 = 19
  · rw [if_pos c19]; exact fin (LB_19 hTX hTB hN hn hR hi hL)
  rw [if_neg c19]
  by_cases c20 : xs (nI i).toNatClampNeg &&& 63 = 20
  · rw [if_pos c20]; exact fin (LB_20 hTX hTB hN hn hR hi hL)
  rw [if_neg c20]
  by_cases c21 : xs (nI i).toNatClampNeg &&& 63 = 21
  · rw [if_pos c21]; exact fin (LB_21 hTX hTB hN hn hR hi hL)
  rw [if_neg c21]
  by_cases c22 : xs (nI i).toNatClampNeg &&& 63 = 22
  · rw [if_pos c22]; exact fin (LB_22 hTX hTB hN hn hR hi hL)
  rw [if_neg c22]
  by_cases c23 : xs (nI i).toNatClampNeg &&& 63 = 23
  · rw [if_pos c23]; exact fin (LB_23 hTX hTB hN hn hR hi hL)
  rw [if_neg c23]
  by_cases c24 : xs (nI i).toNatClampNeg &&& 63 = 24
  · rw [if_pos c24]; exact fin (LB_24 hTX hTB hN hn hR hi hL)
  rw [if_neg c24]
  by_cases c25 : xs (nI i).toNatClampNeg &&& 63 = 25
  · rw [if_pos c25]; exact fin (LB_25 hTX hTB hN hn hR hi hL)
  rw [if_neg c25]
  by_cases c26 : xs (nI i).toNatClampNeg &&& 63 = 26
  · rw [if_pos c26]; exact fin (LB_26 hTX hTB hN hn hR hi hL)
  rw [if_neg c26]
  by_cases c27 : xs (nI i).toNatClampNeg &&& 63 = 27
  · rw [if_pos c27]; exact fin (LB_27 hTX hTB hN hn hR hi hL)
  rw [if_neg c27]
  by_cases c28 : xs (nI i).toNatClampNeg &&& 63 = 28
  · rw [if_pos c28]; exact fin (LB_28 hTX hTB hN hn hR hi hL)
  rw [if_neg c28]
  by_cases c29 : xs (nI i).toNatClampNeg &&& 63 = 29
  · rw [if_pos c29]; exact fin (LB_29 hTX hTB hN hn hR hi hL)
  rw [if_neg c29]
  by_cases c30 : xs (nI i).toNatClampNeg &&& 63 = 30
  · rw [if_pos c30]; exact fin (LB_30 hTX hTB hN hn hR hi hL)
  rw [if_neg c30]
  by_cases c31 : xs (nI i).toNatClampNeg &&& 63 = 31
  · rw [if_pos c31]; exact fin (LB_31 hTX hTB hN hn hR hi hL)
  rw [if_neg c31]
  by_cases c32 : xs (nI i).toNatClampNeg &&& 63 = 32
  · rw [if_pos c32]; exact fin (LB_32 hTX hTB hN hn hR hi hL)
  rw [if_neg c32]
  by_cases c33 : xs (nI i).toNatClampNeg &&& 63 = 33
  · rw [if_pos c33]; exact fin (LB_33 hTX hTB hN hn hR hi hL)
  rw [if_neg c33]
  by_cases c34 : xs (nI i).toNatClampNeg &&& 63 = 34
  · rw [if_pos c34]; exact fin (LB_34 hTX hTB hN hn hR hi hL)
  rw [if_neg c34]
  by_cases c35 : xs (nI i).toNatClampNeg &&& 63 = 35
  · rw [if_pos c35]; exact fin (LB_35 hTX hTB hN hn hR hi hL)
  rw [if_neg c35]
  by_cases c36 : xs (nI i).toNatClampNeg &&& 63 = 36
  · rw [if_pos c36]; exact fin (LB_36 hTX hTB hN hn hR hi hL)
  rw [if_neg c36]
  by_cases c37 : xs (nI i).toNatClampNeg &&& 63 = 37
  · rw [if_pos c37]; exact fin (LB_37 hTX hTB hN hn hR hi hL)
  rw [if_neg c37]
  by_cases c38 : xs (nI i).toNatClampNeg &&& 63 = 38
  · rw [if_pos c38]; exact fin (LB_38 hTX hTB hN hn hR hi hL)
  rw [if_neg c38]
  by_cases c39 : xs (nI i).toNatClampNeg &&& 63 = 39
  · rw [if_pos c39]; exact fin (LB_39 hTX hTB hN hn hR hi hL)
  rw [if_neg c39]
  by_cases c40 : xs (nI i).toNatClampNeg &&& 63 = 40
  · rw [if_pos c40]; exact fin (LB_40 hTX hTB hN hn hR hi hL)
  rw [if_neg c40]
  by_cases c41 : xs (nI i).toNatClampNeg &&& 63 = 41
  · rw [if_pos c41]; exact fin (LB_41 hTX hTB hN hn hR hi hL)
  rw [if_neg c41]
  by_cases c42 : xs (nI i).toNatClampNeg &&& 63 = 42
  · rw [if_pos c42]; exact fin (LB_42 hTX hTB hN hn hR hi hL)
  rw [if_neg c42]
  by_cases c43 : xs (nI i).toNatClampNeg &&& 63 = 43
  · rw [if_pos c43]; exact fin (LB_43 hTX hTB hN hn hR hi hL)
  rw [if_neg c43]
  by_cases c44 : xs (nI i).toNatClampNeg &&& 63 = 44
  · rw [if_pos c44]; exact fin (LB_44 hTX hTB hN hn hR hi hL)
  rw [if_neg c44]
  exact fin ⟨h, hR, Nat.le_add_right _ _, Nat.le_add_right _ _, rfl⟩
theorem law_loop (hTX : TXc TXt) (hTB : TXd TXt) (hN : 100000 ≤ N) (hL : L ≤ 384) : ∀ (F i : Nat) (h : mh_H), mh_n h + F ≤ 500000 → Rel TXt h → i ≤ L + 5 → L + 5 < i + 6 * F → ∃ h', D_L_law_18 N L xs F h 0 86 (nI i) = some (1, h') ∧ mh_n h' ≤ mh_n h + F ∧ mh_z h' ≤ mh_z h + 4 * F := by
  intro F
  induction F with
  | zero => intro i h hn hR hi hF; omega
  | succ F ih =>
    intro i h hn hR hi hF
    by_cases hc : i + 6 ≤ L
    · obtain ⟨h2, r, n1, z1, e⟩ := law_step (xs := xs) hTX hTB hN (by omega) hR hc hL F
      obtain ⟨h', e2, n2, z2⟩ := ih (i + 6) h2 (by omega) r (by omega) (by omega)
      exact ⟨h', e.trans e2, by omega, by omega⟩
    · refine ⟨h, ?_, by omega, by omega⟩
      have c0 : ((Int32.ofNat L) - (6 : Int32)) < nI i := by
        rw [Int32.lt_iff_toInt_lt, nI_toInt (by omega)]
        show (nI L - nI 6).toInt < _
        by_cases h6 : 6 ≤ L
        · obtain ⟨k, hk⟩ : ∃ k, L = k + 6 := ⟨L - 6, by omega⟩
          have e : nI L - nI 6 = nI k := by
            rw [hk, ← nI_add]
            exact Int32.add_sub_cancel _ _
          rw [e, nI_toInt (by omega)]
          omega
        · have : ∀ L, L < 6 → (nI L - nI 6).toInt < 0 := by decide
          have := this L (by omega)
          omega
      rw [D_L_law_18, if_pos c0]
      rfl
end LAW
