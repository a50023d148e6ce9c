/-! laid aside, and an hour of the trial's water -/
section P21
variable {h h' : mh_H} {b n N w p now J j c x t A S m o y H : Nat} {G F0 F1 : F2} {C C' C0 : C2} {Z Z' Z'' Z0 : Z1}
theorem m_asdL (hs : Sh h) (N : Nat) (F0 : F2) : ∀ (m F k : Nat), k + m = 7794 → m < F → D_X12_laysAside_2 N F (mh_w h (cpF F0 87 89 k)) 86 (nI k) = some (mh_w h (cpF F0 87 89 7794)) := by
  intro m
  induction m with
  | zero =>
    intro F k hk hF
    obtain ⟨F, rfl⟩ : ∃ F1, F = F1 + 1 := ⟨F - 1, by omega⟩
    rw [show k = 7794 by omega, D_X12_laysAside_2, if_pos (show (7794 : Int32) ≤ nI 7794 by decide)]
  | succ m ih =>
    intro F k hk hF
    obtain ⟨F, rfl⟩ : ∃ F1, F = F1 + 1 := ⟨F - 1, by omega⟩
    have e2 : ¬ (7794 : Int32) ≤ nI k := fun q => by
      have := (nI_leI (a := 7794) (by decide) (by omega)).mp q
      omega
    rw [D_X12_laysAside_2, if_neg e2, gr_86_2 hs, some_bind, gr_86_0 hs, some_bind, aI_s hs _ (by decide) (by decide) (show k < Ld 87 from (by omega : k < 7794)), some_bind, cpF_o _ _ _ (by decide), uI_s hs _ (by decide) (by decide) (show k < Ld 89 from (by omega : k < 7794)), some_bind, cpF_up, show Int32.ofInt 1 = nI 1 from rfl, nI_add]
    exact ih F (k + 1) (by omega) (by omega)
theorem m_bckL (hs : Sh h) (N : Nat) (F0 : F2) : ∀ (m F k : Nat), k + m = 7794 → m < F → D_X12_laysBack_2 N F (mh_w h (cpF F0 89 87 k)) 86 (nI k) = some (mh_w h (cpF F0 89 87 7794)) := by
  intro m
  induction m with
  | zero =>
    intro F k hk hF
    obtain ⟨F, rfl⟩ : ∃ F1, F = F1 + 1 := ⟨F - 1, by omega⟩
    rw [show k = 7794 by omega, D_X12_laysBack_2, if_pos (show (7794 : Int32) ≤ nI 7794 by decide)]
  | succ m ih =>
    intro F k hk hF
    obtain ⟨F, rfl⟩ : ∃ F1, F = F1 + 1 := ⟨F - 1, by omega⟩
    have e2 : ¬ (7794 : Int32) ≤ nI k := fun q => by
      have := (nI_leI (a := 7794) (by decide) (by omega)).mp q
      omega
    rw [D_X12_laysBack_2, if_neg e2, gr_86_0 hs, some_bind, gr_86_2 hs, some_bind, aI_s hs _ (by decide) (by decide) (show k < Ld 89 from (by omega : k < 7794)), some_bind, cpF_o _ _ _ (by decide), uI_s hs _ (by decide) (by decide) (show k < Ld 87 from (by omega : k < 7794)), some_bind, cpF_up, show Int32.ofInt 1 = nI 1 from rfl, nI_add]
    exact ih F (k + 1) (by omega) (by omega)
def asF (F : F2) (Z : Z1) : F2 := fun x j => if x = 89 ∧ j < 7794 then gz F Z 87 j else F x j
/-- what is laid aside is the row -/
def AS (F : F2) (Z : Z1) : Prop := ∀ j, j < 7794 → F 89 j = gz F Z 87 j
theorem asF_o {a : Nat} (ha : a ≠ 89) : asF F0 Z a = F0 a := by
  funext j
  exact if_neg (fun q => ha q.1)
theorem asF_as (F0 : F2) (Z : Z1) : AS (asF F0 Z) Z := fun j hj => by
  have e : asF F0 Z 89 j = gz F0 Z 87 j := if_pos ⟨rfl, hj⟩
  rw [e]
  unfold gz
  rw [asF_o (by decide)]
theorem AS.cg (hA : AS F0 Z) (h84 : F1 87 = F0 87) (h86 : F1 89 = F0 89) : AS F1 Z := fun j hj => by
  rw [h86, hA j hj]
  unfold gz
  rw [h84]
theorem m_aside (hs : Sh h) (hN : 10000 ≤ N) (F0 : F2) (Z : Z1) : D_X12_laysAside N (mh_w h (gz F0 Z)) 86 = some (mh_w h (gz (asF F0 Z) Z)) := by
  unfold D_X12_laysAside
  have q := m_asdL hs N (gz F0 Z) 7794 N 0 rfl (by omega)
  have e0 : cpF (gz F0 Z) 87 89 0 = gz F0 Z := by
    funext x j
    unfold cpF
    rw [if_neg (by omega)]
  have e1 : cpF (gz F0 Z) 87 89 7794 = gz (asF F0 Z) Z := by
    funext x j
    unfold cpF
    by_cases q : x = 89 ∧ j < 7794
    · rw [if_pos q, gz_o (G := asF F0 Z) (a := x) (show x ≠ 87 by omega)]
      exact (if_pos q).symm
    · rw [if_neg q]
      unfold gz
      by_cases w : x = 87 ∧ j < 7770
      · rw [if_pos w, if_pos w]
      · rw [if_neg w, if_neg w]
        exact (if_neg q).symm
  rw [e0, e1] at q
  exact q
theorem m_back (hs : Sh h) (hN : 10000 ≤ N) (hA : AS F1 Z) (Z' : Z1) : D_X12_laysBack N (mh_w h (gz F1 Z')) 86 = some (mh_w h (gz F1 Z)) := by
  unfold D_X12_laysBack
  have q := m_bckL hs N (gz F1 Z') 7794 N 0 rfl (by omega)
  have e0 : cpF (gz F1 Z') 89 87 0 = gz F1 Z' := by
    funext x j
    unfold cpF
    rw [if_neg (by omega)]
  have e1 : cpF (gz F1 Z') 89 87 7794 = gz F1 Z := by
    funext x j
    unfold cpF
    by_cases q : x = 87 ∧ j < 7794
    · rw [if_pos q, gz_o (by decide), hA j q.2, q.1]
    · rw [if_neg q]
      unfold gz
      rw [if_neg (fun w => q ⟨w.1, by omega⟩), if_neg (fun w => q ⟨w.1, by omega⟩)]
  rw [e0, e1] at q
  exact q
/-- the trial's water -/
def TR (h : mh_H) (G : F2) (C : C2) (Z : Z1) : Prop := Sh h ∧ KZ Z ∧ (∀ w, w < Z 2 → ∃ p, WY h G Z w p) ∧ R_txt TXt C Z 0 25 ∧ C 1 0 = Z 1 ∧ C 1 1 = Z 2 ∧ (∀ j, j < 16 → C 2 j = Z (44 + 11 * j)) ∧ HR 63 (Z 2) (tk Z) (fun _ => Z 0) C Z ∧ ∀ c, c < 4 → tot Z (1 + c) ≤ 400000
theorem WY.cz' (hC : CZ Z Z') (hw : w < 24) (q : WY h G Z w p) : WY h G Z' w p := by
  have y0 := hC.wy (i := w) (k := 0) hw (by decide)
  have y1 := hC.wy (i := w) (k := 1) hw (by decide)
  have y2 := hC.wy (i := w) (k := 2) hw (by decide)
  have y3 := hC.wy (i := w) (k := 3) hw (by decide)
  have y4 := hC.wy (i := w) (k := 4) hw (by decide)
  rw [show 220 + 215 * w + 0 = 220 + 215 * w by omega] at y0
  rw [show 220 + 215 * w + 1 = 221 + 215 * w by omega] at y1
  rw [show 220 + 215 * w + 2 = 222 + 215 * w by omega] at y2
  rw [show 220 + 215 * w + 3 = 223 + 215 * w by omega] at y3
  rw [show 220 + 215 * w + 4 = 224 + 215 * w by omega] at y4
  unfold WY at q ⊢
  rw [y0, y1, y2, y3, y4]
  exact q
theorem tr_hour (hTX : TXc TXt) (hN : 10000 ≤ N) (hR : TR h G C Z) (h0 : Z 0 + 1 ≤ 1100) (ht : tot Z 0 + 15984 ≤ 20000000) (Y : Z1) : ∃ h2 C' Z', D_X8_passHour N (mh_w h (cz (gz G Y) C)) 63 1 73 = some (mh_w h2 (cz (gz G Y) C')) ∧ (∀ (h' : mh_H) (F1 : F2), Sh h' → ∃ F2, D_X12_hour N (mh_w h' (gz F1 Z)) 86 = some (mh_w h' (gz F2 Z')) ∧ ∀ a, a ≠ 92 → a ≠ 95 → a ≠ 96 → F2 a = F1 a) ∧ TR h2 G C' Z' ∧ RX h h2 ∧ Z' 0 = Z 0 + 1 ∧ tot Z' 0 ≤ tot Z 0 + 15984 ∧ CZ Z Z' ∧ ∀ a, a < 63 ∨ 77 < a → C' a = C a := by
  obtain ⟨hs, hK, hW, hX, e1, e2, e3, hH, hB⟩ := hR
  have n24 := hK.2.2.1
  obtain ⟨h2, C', Z', a1, a2, a3, a4, a5, a6, a7, a8, a9, a10, a11, a12, a13⟩ := hour_ok (b := 63) (C := C) hs (Or.inr rfl) hN (gz G Y) hK h0 (fun w hw => by
    obtain ⟨p, hp⟩ := hW w hw
    exact ⟨p, hp.gz Y⟩) hX e1 e2 e3 hH ht hB
  have hC : CZ Z Z' := a8
  have z1 := hC.lo (z := 1) (by decide) (by decide)
  have z2 := hC.lo (z := 2) (by decide) (by decide)
  refine ⟨h2, C', Z', a1, a2, ⟨a3, a6, fun w hw => ?_, ?_, ?_, ?_, fun j hj => ?_, a5, fun c hc => Nat.le_trans (a11 c hc) (hB c hc)⟩, a4, a7, a10, hC, fun a ha => a9 a (by omega) (by omega) (by omega)⟩
  · obtain ⟨p, hp⟩ := hW w (by omega)
    exact ⟨p, (hp.cz' hC (by omega)).rx a4⟩
  · exact (hX.zc hTX (by decide) (fun k k1 _ => hC.hi (by omega))).congr (a9 25 (by omega) (by decide) (by decide)) (a9 26 (by omega) (by decide) (by decide))
  · rw [a9 1 (by omega) (by decide) (by decide), z1]; exact e1
  · rw [a9 1 (by omega) (by decide) (by decide), z2]; exact e2
  · rw [a9 2 (by omega) (by decide) (by decide), (hC.jn hj).1]; exact e3 j hj
/-- the class lays a copy out -/
theorem tr_copy (hs : Sh h) (N : Nat) (hR : R_all TXt h G Z C) : ∃ C', (∀ F0 : F2, D_X8_copyOf N (mh_w h (cz F0 C)) 63 6 = some (mh_w h (cz F0 C'))) ∧ TR h G C' Z ∧ ∀ a, a < 63 ∨ 77 < a → C' a = C a := by
  have hw := hR.2.2.2.2.1
  have hB := hw.1
  obtain ⟨c0, c1, c2, c3, c4, c5, c6, c7, c8⟩ := hw.1.1
  have hj := hw.2.1
  obtain ⟨s1, s2⟩ := hB.2.2.2.2.2.1
  have hH := HR_of c2 hw.2.2.2.1 hw.2.2.2.2.1
  obtain ⟨C', m1, m2, k0, k1, k2, k3, k4, k5, k6, k7, k8⟩ := wcopy_63_6 hs N C (by rw [w_flood hw]; exact c5)
  have hK := KZ.of hB
  have hT := hK.tb
  refine ⟨C', m1, ⟨hs, hK, fun w hw2 => w_WY hw c2 hw2, hw.2.2.2.2.2.2.2.1.congr (m2 25 (by omega)) (m2 26 (by omega)), by rw [m2 1 (by omega)]; exact hj.1, by rw [m2 1 (by omega)]; exact hj.2.1, fun j hj2 => by rw [m2 2 (by omega)]; exact (hj.2.2.1 j hj2).1, HR_of c2 ?_ ?_, fun c hc => by have := s2 c hc; omega⟩, fun a ha => m2 a (by omega)⟩
  · obtain ⟨w0, w1, w2, w3, w4, w5, w6⟩ := hw.2.2.2.1
    exact ⟨(k0 0 (by decide)).trans w0, (k0 1 (by decide)).trans w1, (k0 2 (by decide)).trans w2, fun c hc => (k1 c hc).trans (w3 c hc), fun c hc k hk q => (k2 _ (by omega)).trans (w4 c hc k hk q), fun j hj => ⟨(k3 _ (by omega)).trans (w5 j hj).1, fun c hc => (k3 _ (by omega)).trans ((w5 j hj).2.1 c hc), (k6 j hj).trans (w5 j hj).2.2.1, (k7 j hj).trans (w5 j hj).2.2.2.1, fun c hc r hr => (k8 _ (by omega)).trans ((w5 j hj).2.2.2.2 c hc r hr)⟩, fun i hi t ht => (k5 _ (by omega)).trans (w6 i hi t ht)⟩
  · have hi := hw.2.2.2.2.1
    intro i hi2 t ht
    obtain ⟨q1, q2⟩ := hi i hi2 t ht
    refine ⟨fun q => ?_, fun q r hr => (k4 _ (by omega)).trans (q2 q r hr)⟩
    obtain ⟨q3, q4, q5⟩ := q1 q
    obtain ⟨t1, t2⟩ := hT.2 i q
    refine ⟨fun k x1 x2 => ?_, fun r x1 x2 => (k4 _ (by omega)).trans (q4 r x1 x2), q5⟩
    have hm : (Z 0 + 40 * tk Z i - k) % tk Z i < tk Z i := Nat.mod_lt _ (by omega)
    exact (k4 _ (by omega)).trans (q3 k x1 x2)
end P21
