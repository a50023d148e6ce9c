/-! night: all sets of holes, on both sides -/
section W05
variable {h h' : mh_H} {N n A B b g i j x k v s p a kh : Nat} {w no : Nat → Nat} {G F0 F1 : F2} {C C' : C2} {Z : Z1}
theorem ngtL (hs : Sh h) (hN : 100000 ≤ N) (F0 : F2) (h16 : Z 1 ≤ 16) (hA : A < 2 ^ 16) (hB : B < 2 ^ 16) (hC : ∀ s, s < 16 → C 20 s < 2 ^ 16) (hk1 : 1 ≤ k) (hk : k ≤ pcn B) (hkh : kh ≤ 16) (hno : ∀ i, i < Z 1 → no i < 2 ^ 16) (hAz : ∀ i, A.testBit i = true → i < Z 1) (hq : ∀ i s, A.testBit i = true → B.testBit s = true → ((no i).testBit s = true ↔ (C 20 s).testBit i = true)) (l3 : Int32) : ∀ m i p y z bh bs, i + m = 2 ^ pcn A → 1 ≤ i → p ≤ 257 → (1 ≤ p → y = bh ∧ z = bs) → ∃ p' y' z' bh' bs', (p' ≤ 257 ∧ p ≤ p' ∧ (1 ≤ p' → y' = bh' ∧ z' = bs') ∧ ∀ i', i ≤ i' → i' < 2 ^ pcn A → pcn (pd 16 A i') = kh → 1 ≤ p') ∧ (∀ F, m < F → D_X1_planNight_68 N F (mh_w h (cz (plF F0 (pm p) y z) C)) 16 (nI A) (nI B) (nI kh) (nI k) (nI (2 ^ pcn A)) (nI (pd 16 A (i - 1))) (nI i) = some (mh_w h (cz (plF F0 (pm p') y' z') C))) ∧ ∀ (F : Nat) (h' : mh_H) (F1 : F2), m < F → Sh h' → (∀ i, i < Z 1 → F1 100 i = nI (no i)) → D_X12_night_251 N F (mh_w h' (gz F1 Z)) 86 (nI kh) (nI k) l3 (nI A) (nI B) (pm p) bh bs (nI (pdz A i)) = if l3 = 0 then some (pm p', mh_w h' (gz F1 Z)) else if l3 = (1 : Int32) then some (bh', mh_w h' (gz F1 Z)) else some (bs', mh_w h' (gz F1 Z)) := by
  intro m
  induction m with
  | zero =>
    intro i p y z bh bs hm h1 hp hy
    refine ⟨p, y, z, bh, bs, ⟨hp, Nat.le_refl _, hy, fun i' q1 q2 _ => by omega⟩, fun F hF => ?_, fun F h' F1 hF hs' hno' => ?_⟩
    · obtain ⟨F, rfl⟩ : ∃ F1, F = F1 + 1 := ⟨F - 1, by omega⟩
      rw [D_X1_planNight_68, show i = 2 ^ pcn A by omega, if_pos (Int32.le_refl _)]
    · obtain ⟨F, rfl⟩ : ∃ F1, F = F1 + 1 := ⟨F - 1, by omega⟩
      have e0 : pdz A i = 0 := if_neg (by omega)
      rw [D_X12_night_251, e0, if_pos (show nI 0 = (0 : Int32) from rfl)]
  | succ m ih =>
    intro i p y z bh bs hm h1 hp hy
    have hi : i < 2 ^ pcn A := by omega
    have p2A := p2 A
    have p2B := p2 B
    have nx0 := pdz_n (i := i - 1) hA (by omega)
    rw [pdz_T (show i - 1 < 2 ^ pcn A by omega), show i - 1 + 1 = i by omega, pdz_T hi] at nx0
    have nx := pdz_n hA hi
    rw [pdz_T hi] at nx
    have ha := pcn_pd (i := i) hA
    have ha0 := pdz_p (A := A) h1 hi
    have nz : ¬ nI (pd 16 A i) = (0 : Int32) := nI_ne0 ha0 (by omega)
    have nl : ¬ nI (2 ^ pcn A) ≤ nI i := fun q => by
      have := (nI_leI (by omega) (by omega)).mp q
      omega
    have hpc := pcn_le (pd 16 A i)
    have asub : ∀ t, (pd 16 A i).testBit t = true → A.testBit t = true := fun t ht => by
      rw [← pd_sub 16 A i, Nat.testBit_and, Bool.and_eq_true] at ht
      exact ht.2
    by_cases ek : pcn (pd 16 A i) = kh
    · obtain ⟨pr, ch, q1, q2⟩ := c_ps (a := pd 16 A i) (B := B) (k := k) (p := p) hs (show 10000 ≤ N by omega) (plF F0 (pm p) y z) ha hB hC hk (by unfold plF; rw [if_pos ⟨rfl, rfl⟩]) (by omega)
      have hsum : ∀ b, b &&& B = b → sumR (fun h => if (pd 16 A i).testBit h = true then pcn (no h &&& b) else 0) 0 (Z 1) = sc (fun s => pcn (pd 16 A i &&& C 20 s)) b := fun b hb => by
        rw [← sumR_cut _ h16 (fun t t1 t2 => if_neg (fun e => by have := hAz t (asub t e); omega))]
        exact sc_ex (fun t s e1 e2 => hq t s (asub t e1) (by rw [← hb, Nat.testBit_and, Bool.and_eq_true] at e2; exact e2.2))
      have hk16 := pcn_le B
      have hpr : pr ≤ 256 := by rw [q1.2.2.1]; exact sc_lt _ (fun t => pcn_le _) _
      have r := fun (h' : mh_H) (F1 : F2) (hs' : Sh h') (hno' : ∀ i, i < Z 1 → F1 100 i = nI (no i)) (l1 l4 : Int32) k251 => m_276 (F0 := F1) (a := pd 16 A i) (B := B) (k := k) (w := fun s => pcn (pd 16 A i &&& C 20 s)) hs' (show 10000 ≤ N by omega) h16 ha hB (fun i hi => ⟨hno' i hi, hno i hi⟩) (by omega) (fun t => pcn_le _) hsum l1 l3 l4 k251 (2 ^ pcn B - 1) 1 p bh bs N (by omega) (by omega) (by omega) hp
      by_cases e : p ≤ pr
      · obtain ⟨p', y', z', bh', bs', ⟨s1, s2, s3, s4⟩, s5, s6⟩ := ih (i + 1) (pr + 1) (nI (pd 16 A i)) (nI ch) (nI (pd 16 A i)) (nI ch) (by omega) (by omega) (by omega) (fun _ => ⟨rfl, rfl⟩)
        refine ⟨p', y', z', bh', bs', ⟨s1, by omega, s3, fun i' u1 u2 u3 => by omega⟩, fun F hF => ?_, fun F h' F1 hF hs' hno' => ?_⟩
        · obtain ⟨F, rfl⟩ : ∃ F1, F = F1 + 1 := ⟨F - 1, by omega⟩
          have s5 := s5 F (by omega)
          rw [show i + 1 - 1 = i by omega] at s5
          rw [if_pos e, plF_pl] at q2
          rw [D_X1_planNight_68, if_neg nl, nx0, bitCount_n N _ ha, some_bind]
          dsimp only
          rw [ek, if_pos rfl, ko_16 hs, q2, some_bind]
          unfold D_X1_planNight_101
          rw [show Int32.ofInt 1 = nI 1 from rfl, nI_add]
          exact s5
        · obtain ⟨F, rfl⟩ : ∃ F1, F = F1 + 1 := ⟨F - 1, by omega⟩
          obtain ⟨p2, bh2, bs2, t0, t1, t2⟩ := r h' F1 hs' hno' (nI kh) (nI A) (D_X12_night_251 N F)
          obtain ⟨rfl, rfl, rfl⟩ := (fn_eq hB hk1 q1 t1).1 e
          rw [D_X12_night_251, pdz_T hi, if_neg nz, m_ones (show 10000 ≤ N by omega) _ ha, some_bind]
          dsimp only
          rw [ek, if_pos rfl, pdz_1 hB, t2]
          unfold D_X12_night_384
          rw [nx]
          exact s6 F h' F1 (by omega) hs' hno'
      · obtain ⟨p', y', z', bh', bs', ⟨s1, s2, s3, s4⟩, s5, s6⟩ := ih (i + 1) p y z bh bs (by omega) (by omega) hp hy
        refine ⟨p', y', z', bh', bs', ⟨s1, by omega, s3, fun i' u1 u2 u3 => by omega⟩, fun F hF => ?_, fun F h' F1 hF hs' hno' => ?_⟩
        · obtain ⟨F, rfl⟩ : ∃ F1, F = F1 + 1 := ⟨F - 1, by omega⟩
          have s5 := s5 F (by omega)
          rw [show i + 1 - 1 = i by omega] at s5
          rw [if_neg e] at q2
          rw [D_X1_planNight_68, if_neg nl, nx0, bitCount_n N _ ha, some_bind]
          dsimp only
          rw [ek, if_pos rfl, ko_16 hs, q2, some_bind]
          unfold D_X1_planNight_101
          rw [show Int32.ofInt 1 = nI 1 from rfl, nI_add]
          exact s5
        · obtain ⟨F, rfl⟩ : ∃ F1, F = F1 + 1 := ⟨F - 1, by omega⟩
          obtain ⟨p2, bh2, bs2, t0, t1, t2⟩ := r h' F1 hs' hno' (nI kh) (nI A) (D_X12_night_251 N F)
          obtain ⟨rfl, rfl, rfl⟩ := (fn_eq hB hk1 q1 t1).2 e
          rw [D_X12_night_251, pdz_T hi, if_neg nz, m_ones (show 10000 ≤ N by omega) _ ha, some_bind]
          dsimp only
          rw [ek, if_pos rfl, pdz_1 hB, t2]
          unfold D_X12_night_384
          rw [nx]
          exact s6 F h' F1 (by omega) hs' hno'
    · obtain ⟨p', y', z', bh', bs', ⟨s1, s2, s3, s4⟩, s5, s6⟩ := ih (i + 1) p y z bh bs (by omega) (by omega) hp hy
      have ne : ¬ nI (pcn (pd 16 A i)) = nI kh := fun q => ek ((nI_eq (by omega) (by omega)).mp q)
      refine ⟨p', y', z', bh', bs', ⟨s1, by omega, s3, fun i' u1 u2 u3 => ?_⟩, fun F hF => ?_, fun F h' F1 hF hs' hno' => ?_⟩
      · by_cases ei : i' = i
        · rw [ei] at u3; exact absurd u3 ek
        · exact s4 i' (by omega) u2 u3
      · obtain ⟨F, rfl⟩ : ∃ F1, F = F1 + 1 := ⟨F - 1, by omega⟩
        have s5 := s5 F (by omega)
        rw [show i + 1 - 1 = i by omega] at s5
        rw [D_X1_planNight_68, if_neg nl, nx0, bitCount_n N _ ha, some_bind]
        dsimp only
        rw [if_neg ne]
        unfold D_X1_planNight_101
        rw [show Int32.ofInt 1 = nI 1 from rfl, nI_add]
        exact s5
      · obtain ⟨F, rfl⟩ : ∃ F1, F = F1 + 1 := ⟨F - 1, by omega⟩
        rw [D_X12_night_251, pdz_T hi, if_neg nz, m_ones (show 10000 ≤ N by omega) _ ha, some_bind]
        dsimp only
        rw [if_neg ne]
        unfold D_X12_night_384
        rw [nx]
        exact s6 F h' F1 (by omega) hs' hno'
end W05
