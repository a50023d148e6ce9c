/-! night: both sides get ready -/
section W07
variable {h h' : mh_H} {N n A B b g i j x k v s p a kh M : Nat} {w no : Nat → Nat} {TX : Nat → Nat → (Nat → Nat) → Z1 → Prop} {G F0 F1 : F2} {C C' : C2} {Z : Z1}
theorem nI_andn (k m : Nat) : nI k &&& (nI m ^^^ (-1 : Int32)) = nI (k ^^^ (k &&& m)) := by
  apply Int32.toBitVec_inj.mp
  show BitVec.ofNat 32 k &&& (BitVec.ofNat 32 m ^^^ (BitVec.allOnes 32)) = BitVec.ofNat 32 (k ^^^ (k &&& m))
  apply BitVec.eq_of_getLsbD_eq
  intro i hi
  simp only [BitVec.getLsbD_and, BitVec.getLsbD_xor, BitVec.getLsbD_ofNat, BitVec.getLsbD_allOnes, hi, decide_true, Bool.true_and, Nat.testBit_xor, Nat.testBit_and]
  cases k.testBit i <;> cases m.testBit i <;> rfl
theorem andn_bit (k m i : Nat) : (k ^^^ (k &&& m)).testBit i = true ↔ k.testBit i = true ∧ ¬ m.testBit i = true := by
  rw [Nat.testBit_xor, Nat.testBit_and]
  cases k.testBit i <;> cases m.testBit i <;> decide
theorem andn_lt {k m : Nat} (hk : k < 2 ^ 16) : k ^^^ (k &&& m) < 2 ^ 16 := Nat.xor_lt_two_pow hk (Nat.lt_of_le_of_lt Nat.and_le_left hk)
/-- HOLES of which nothing is SAID at a SPRING -/
noncomputable def unZ (Z : Z1) (A B s : Nat) : Nat := @ite _ (B.testBit s = true) (cd _) (A ^^^ (A &&& loZ Z (fun l => Z (7076 + 8 * l + 0) = s) 0 (Z 4) 0)) 0
theorem unZ_lt (hA : A < 2 ^ 16) : unZ Z A B s < 2 ^ 16 := by
  unfold unZ
  split
  · exact andn_lt hA
  · decide
theorem LKC.o (hL : LKC C Z) (hC : ∀ a, a ≠ 20 → C' a = C a) : LKC C' Z := by
  unfold LKC
  rw [hC 16 (by decide), hC 18 (by decide)]
  exact hL
theorem c_pn3 (hs : Sh h) (hN : 10000 ≤ N) (F0 : F2) (hB : B_all Z) (hA : A < 2 ^ 16) (hBl : B < 2 ^ 16) (l3 l4 : Int32) : ∀ m s F C, s + m = 16 → m < F → LKC C Z → (∀ s', s' < s → C 20 s' = unZ Z A B s') → ∃ C', (∀ a, a ≠ 20 → C' a = C a) ∧ (∀ s', s' < 16 → C' 20 s' = unZ Z A B s') ∧ D_X1_planNight_3 N F (mh_w h (cz F0 C)) 16 (nI A) (nI B) l3 l4 (nI s) = D_X1_planNight_68 N N (mh_w h (cz (up2 F0 19 0 (-1)) C')) 16 (nI A) (nI B) l3 l4 (nI (2 ^ pcn A)) (nI 0) (nI 1) := by
  have c4 := hB.1.2.2.2.2.1
  intro m
  induction m with
  | zero =>
    intro s F C hm hF hL hq
    obtain ⟨F, rfl⟩ : ∃ F1, F = F1 + 1 := ⟨F - 1, by omega⟩
    obtain rfl : s = 16 := by omega
    have hp := pcn_le A
    refine ⟨C, fun _ _ => rfl, hq, ?_⟩
    rw [D_X1_planNight_3, if_pos (by decide), gr_16_4 hs, some_bind, show (0 : Int32) = nI 0 from rfl, ui_19 hs _ _ (by decide), some_bind, bitCount_n N _ hA, some_bind]
    dsimp only
    rw [show ((1 : Int32) <<< (nI (pcn A) &&& 31)) = nI 1 <<< (nI (pcn A) &&& nI 31) from rfl, shl_n (by omega)]
    rfl
  | succ m ih =>
    intro s F C hm hF hL hq
    obtain ⟨F, rfl⟩ : ∃ F1, F = F1 + 1 := ⟨F - 1, by omega⟩
    have s16 : s < 16 := by omega
    have n16 : ¬ (16 : Int32) ≤ nI s := fun q => by
      have := (nI_leI (a := 16) (by decide) (by omega)).mp q
      omega
    have up : ∀ a, a ≠ 20 → upC C 20 s (unZ Z A B s) a = C a := fun a ha => upC_o ha
    obtain ⟨C', r1, r2, r3⟩ := ih (s + 1) F (upC C 20 s (unZ Z A B s)) (by omega) (by omega) (hL.o up) (fun s' hs' => by
      by_cases e : s' = s
      · rw [e, upC_s]
      · show (if 20 = 20 ∧ s' = s then _ else _) = _
        rw [if_neg (fun q => e q.2)]; exact hq s' (by omega))
    refine ⟨C', fun a ha => by rw [r1 a ha, up a ha], r2, ?_⟩
    rw [D_X1_planNight_3, if_neg n16, gr_16_5 hs, some_bind, bit_n N _ (by omega) (by omega), some_bind]
    dsimp only
    by_cases e : B.testBit s = true
    · have e1 : B / 2 ^ s % 2 = 1 := (bit_div B s).mpr e
      have hl := c_hl (s := s) hs N F0 hB hL s16 (Z 4) 0 0 N (by omega) (by omega)
      have eu : unZ Z A B s = A ^^^ (A &&& loZ Z (fun l => Z (7076 + 8 * l + 0) = s) 0 (Z 4) 0) := if_pos e
      rw [e1, if_pos (show nI 1 = (1 : Int32) from rfl), ko_16 hs]
      unfold D_X1_holesLookedFor
      rw [show (0 : Int32) = nI 0 from rfl, hl, some_bind]
      dsimp only
      unfold D_X1_planNight_40
      rw [nI_andn, ← eu, ui_20 hs _ _ s16, some_bind, show Int32.ofInt 1 = nI 1 from rfl, nI_add]
      exact r3
    · have e1 : B / 2 ^ s % 2 = 0 := by rw [bit_01, if_neg e]
      have eu : unZ Z A B s = 0 := if_neg e
      rw [e1, if_neg (by decide)]
      unfold D_X1_planNight_40
      rw [show (0 : Int32) = nI 0 from rfl]
      rw [eu] at r3
      rw [ui_20 hs _ _ s16, some_bind, show Int32.ofInt 1 = nI 1 from rfl, nI_add]
      exact r3
/-- SPRINGS at which nothing is SAID of a HOLE -/
noncomputable def noZ (Z : Z1) (A i : Nat) : Nat := @ite _ (A.testBit i = true) (cd _) (bset (fun s => Z (44 + 11 * s) = 2 ∧ saidZ Z i s 0 = 0) 0 (Z 1) 0) 0
theorem up2_2 (F : F2) (a i : Nat) (x y : Int32) : up2 (up2 F a i x) a i y = up2 F a i y := by
  funext b j
  unfold up2
  by_cases q : b = a ∧ j = i
  · rw [if_pos q, if_pos q]
  · rw [if_neg q, if_neg q, if_neg q]
theorem m_161 (hs : Sh h) (hN : 10000 ≤ N) (F0 : F2) (hB : B_all Z) (hA : A < 2 ^ 16) (hi : i < Z 1) (hb : A.testBit i = true) (l1 l2 l3 l5 : Int32) (k139 : mh_H → Nat → Int32 → Int32 → Int32 → Int32 → Int32 → Int32 → Option (Int32 × mh_H)) : ∀ m s acc F, s + m = Z 1 → m < F → D_X12_night_161 N k139 F (mh_w h (gz (up2 F0 100 i (nI acc)) Z)) 86 l1 l2 l3 (nI A) l5 (nI i) (nI s) = k139 (mh_w h (gz (up2 F0 100 i (nI (bset (fun s => Z (44 + 11 * s) = 2 ∧ saidZ Z i s 0 = 0) s m acc))) Z)) 86 l1 l2 l3 (nI A) l5 (nI (i + 1)) := by
  have c1 := hB.1.2.1
  intro m
  induction m with
  | zero =>
    intro s acc F hm hF
    obtain ⟨F, rfl⟩ : ∃ F1, F = F1 + 1 := ⟨F - 1, by omega⟩
    have e1 : aI (mh_w h (gz (up2 F0 100 i (nI acc)) Z)) 87 (1 : Int32) = some (nI (Z 1)) := ai_87 hs _ Z (n := 1) (by decide)
    rw [D_X12_night_161, gr_86_0 hs, some_bind, e1, some_bind, show s = Z 1 by omega, if_pos (Int32.le_refl _), bset]
    unfold D_X12_night_228
    rw [show Int32.ofInt 1 = nI 1 from rfl, nI_add]
  | succ m ih =>
    intro s acc F hm hF
    obtain ⟨F, rfl⟩ : ∃ F1, F = F1 + 1 := ⟨F - 1, by omega⟩
    have e1 : aI (mh_w h (gz (up2 F0 100 i (nI acc)) Z)) 87 (1 : Int32) = some (nI (Z 1)) := ai_87 hs _ Z (n := 1) (by decide)
    have nl : ¬ nI (Z 1) ≤ nI s := fun q => by
      have := (nI_leI (by omega) (by omega)).mp q
      omega
    have eA : A / 2 ^ i % 2 = 1 := (bit_div A i).mpr hb
    obtain ⟨b1, -⟩ := hB.2.1.1 s (by omega)
    have sp := m_isSpring (j := s) hs N (up2 F0 100 i (nI acc)) (by omega) b1
    have sd := m_said (j := i) (s := s) (w := 0) hs hN (up2 F0 100 i (nI acc)) hB (by omega) (by omega) (by omega)
    have s3 := said_3 Z i s 0
    rw [D_X12_night_161, gr_86_0 hs, some_bind, e1, some_bind, if_neg nl, nI_bi3 (by omega) (by omega), eA, if_pos (show nI 1 = (1 : Int32) from rfl), gr_86_20 hs, some_bind, ai_100 hs _ _ (by omega), some_bind, up2_s, ko_86 hs, sp, some_bind, bset]
    dsimp only
    by_cases f1 : Z (44 + 11 * s) = 2
    · rw [ibT f1, if_neg (by decide), ko_86 hs, show (0 : Int32) = nI 0 from rfl, sd, some_bind]
      dsimp only
      by_cases f2 : saidZ Z i s 0 = 0
      · rw [if_pos (show nI (saidZ Z i s 0) = nI 0 by rw [f2]), if_pos ⟨f1, f2⟩]
        unfold D_X12_night_220
        rw [show ((1 : Int32) <<< (nI s &&& 31)) = nI 1 <<< (nI s &&& nI 31) from rfl, nI_seb acc (show s < 31 by omega), ui_100 hs _ _ (by omega), some_bind, up2_2, show Int32.ofInt 1 = nI 1 from rfl, nI_add]
        exact ih (s + 1) _ F (by omega) (by omega)
      · rw [if_neg (fun q => f2 ((nI_eq (by omega) (by decide)).mp q)), if_neg (fun q => f2 q.2)]
        unfold D_X12_night_219 D_X12_night_220
        rw [show (0 : Int32) = nI 0 from rfl, nI_or, Nat.or_zero, ui_100 hs _ _ (by omega), some_bind, up2_2, show Int32.ofInt 1 = nI 1 from rfl, nI_add]
        exact ih (s + 1) _ F (by omega) (by omega)
    · rw [ibF f1, if_pos (by decide), if_neg (fun q => f1 q.1)]
      unfold D_X12_night_219 D_X12_night_220
      rw [show (0 : Int32) = nI 0 from rfl, nI_or, Nat.or_zero, ui_100 hs _ _ (by omega), some_bind, up2_2, show Int32.ofInt 1 = nI 1 from rfl, nI_add]
      exact ih (s + 1) _ F (by omega) (by omega)
theorem m_139 (hs : Sh h) (hN : 10000 ≤ N) (hB : B_all Z) (hA : A < 2 ^ 16) (l1 l2 l3 l5 : Int32) : ∀ m i F F0, i + m = Z 1 → m < F → (∀ i', i' < i → F0 100 i' = nI (noZ Z A i')) → ∃ F1, (∀ a, a ≠ 100 → F1 a = F0 a) ∧ (∀ i', i' < Z 1 → F1 100 i' = nI (noZ Z A i')) ∧ D_X12_night_139 N F (mh_w h (gz F0 Z)) 86 l1 l2 l3 (nI A) l5 (nI i) = D_X12_night_251 N N (mh_w h (gz F1 Z)) 86 l1 l2 l3 (nI A) l5 (-1 : Int32) (nI 0) (nI 0) (nI A &&& (-nI A)) := by
  have c1 := hB.1.2.1
  intro m
  induction m with
  | zero =>
    intro i F F0 hm hF hq
    obtain ⟨F, rfl⟩ : ∃ F1, F = F1 + 1 := ⟨F - 1, by omega⟩
    obtain rfl : i = Z 1 := by omega
    refine ⟨F0, fun _ _ => rfl, hq, ?_⟩
    have e1 : aI (mh_w h (gz F0 Z)) 87 (1 : Int32) = some (nI (Z 1)) := ai_87 hs _ Z (n := 1) (by decide)
    rw [D_X12_night_139, gr_86_0 hs, some_bind, e1, some_bind, if_pos (Int32.le_refl _)]
    rfl
  | succ m ih =>
    intro i F F0 hm hF hq
    obtain ⟨F, rfl⟩ : ∃ F1, F = F1 + 1 := ⟨F - 1, by omega⟩
    have hi : i < Z 1 := by omega
    have e1 : aI (mh_w h (gz F0 Z)) 87 (1 : Int32) = some (nI (Z 1)) := ai_87 hs _ Z (n := 1) (by decide)
    have nl : ¬ nI (Z 1) ≤ nI i := fun q => by
      have := (nI_leI (by omega) (by omega)).mp q
      omega
    obtain ⟨F1, r1, r2, r3⟩ := ih (i + 1) F (up2 F0 100 i (nI (noZ Z A i))) (by omega) (by omega) (fun i' hi' => by
      by_cases e : i' = i
      · rw [e, up2_s]
      · rw [up2_j e]; exact hq i' (by omega))
    refine ⟨F1, fun a ha => by rw [r1 a ha, up2_o ha], r2, ?_⟩
    rw [D_X12_night_139, gr_86_0 hs, some_bind, e1, some_bind, if_neg nl, gr_86_20 hs, some_bind, show (0 : Int32) = nI 0 from rfl, ui_100 hs _ _ (by omega), some_bind]
    by_cases e : A.testBit i = true
    · have en : noZ Z A i = bset (fun s => Z (44 + 11 * s) = 2 ∧ saidZ Z i s 0 = 0) 0 (Z 1) 0 := if_pos e
      rw [en] at r3
      exact (m_161 hs hN F0 hB hA hi e l1 l2 l3 l5 _ (Z 1) 0 0 N (by omega) (by omega)).trans r3
    · have en : noZ Z A i = 0 := if_neg e
      rw [en] at r3
      have eA : A / 2 ^ i % 2 = 0 := by rw [bit_01, if_neg e]
      refine Eq.trans ?_ r3
      obtain ⟨K, hK⟩ : ∃ F1, N = F1 + 1 := ⟨N - 1, by omega⟩
      have e2 : aI (mh_w h (gz (up2 F0 100 i (nI 0)) Z)) 87 (1 : Int32) = some (nI (Z 1)) := ai_87 hs _ Z (n := 1) (by decide)
      have u : ∀ F, D_X12_night_161 N (D_X12_night_139 N F) (K + 1) (mh_w h (gz (up2 F0 100 i (nI 0)) Z)) 86 l1 l2 l3 (nI A) l5 (nI i) (nI 0) = D_X12_night_139 N F (mh_w h (gz (up2 F0 100 i (nI 0)) Z)) 86 l1 l2 l3 (nI A) l5 (nI (i + 1)) := fun F => by
        rw [D_X12_night_161, gr_86_0 hs, some_bind, e2, some_bind, nI_bi3 (by omega) (by omega), eA]
        unfold D_X12_night_228
        rw [show Int32.ofInt 1 = nI 1 from rfl, nI_add]
        split
        · rfl
        · rw [if_neg (by decide)]
      have u := u F
      rw [← hK] at u
      exact u
theorem m_51 (hs : Sh h) (hN : 10000 ≤ N) (F0 : F2) (hB : B_all Z) (l1 l2 l3 : Int32) : ∀ m j acc bcc F, j + m = Z 1 → m < F → D_X12_night_51 N F (mh_w h (gz F0 Z)) 86 l1 l2 l3 (nI acc) (nI bcc) (nI j) = D_X12_night_51 N 1 (mh_w h (gz F0 Z)) 86 l1 l2 l3 (nI (bset (MB Z) j m acc)) (nI (bset (fun j => Z (44 + 11 * j) = 2) j m bcc)) (nI (Z 1)) := by
  have c1 := hB.1.2.1
  have e1 : aI (mh_w h (gz F0 Z)) 87 (1 : Int32) = some (nI (Z 1)) := ai_87 hs _ Z (n := 1) (by decide)
  intro m
  induction m with
  | zero =>
    intro j acc bcc F hm hF
    obtain ⟨F, rfl⟩ : ∃ F1, F = F1 + 1 := ⟨F - 1, by omega⟩
    obtain rfl : j = Z 1 := by omega
    rw [bset, bset, D_X12_night_51, gr_86_0 hs, some_bind, e1, some_bind, if_pos (Int32.le_refl _), D_X12_night_51, gr_86_0 hs, some_bind, e1, some_bind, if_pos (Int32.le_refl _)]
  | succ m ih =>
    intro j acc bcc F hm hF
    obtain ⟨F, rfl⟩ : ∃ F1, F = F1 + 1 := ⟨F - 1, by omega⟩
    have nl : ¬ nI (Z 1) ≤ nI j := fun q => by
      have := (nI_leI (by omega) (by omega)).mp q
      omega
    obtain ⟨b1, -⟩ := hB.2.1.1 j (by omega)
    have sp := m_isSpring (j := j) hs N F0 (by omega) b1
    have mb := m_mb (j := j) hs hN F0 hB (by omega)
    have ih' := fun a b => ih (j + 1) a b F (by omega) (by omega)
    have se : ((1 : Int32) <<< (nI j &&& 31)) = nI 1 <<< (nI j &&& nI 31) := rfl
    have t : ∀ x y : Nat, D_X12_night_81 N (D_X12_night_51 N F) (mh_w h (gz F0 Z)) 86 l1 l2 l3 (nI bcc) (nI j) (nI acc) (nI x) = D_X12_night_51 N F (mh_w h (gz F0 Z)) 86 l1 l2 l3 (nI (acc ||| x)) (nI (@ite _ (Z (44 + 11 * j) = 2) (cd _) (bcc ||| 2 ^ j) bcc)) (nI (j + 1)) := fun x y => by
      unfold D_X12_night_81
      rw [ko_86 hs, sp, some_bind]
      dsimp only
      by_cases f : Z (44 + 11 * j) = 2
      · rw [ibT f, if_neg (by decide), if_pos f]
        unfold D_X12_night_103
        rw [se, nI_seb bcc (show j < 31 by omega), nI_or, show Int32.ofInt 1 = nI 1 from rfl, nI_add]
      · rw [ibF f, if_pos (by decide), if_neg f]
        unfold D_X12_night_103
        rw [show (0 : Int32) = nI 0 from rfl, nI_or, nI_or, Nat.or_zero, show Int32.ofInt 1 = nI 1 from rfl, nI_add]
    rw [D_X12_night_51, gr_86_0 hs, some_bind, e1, some_bind, if_neg nl, ko_86 hs, mb, some_bind, bset, bset]
    dsimp only
    by_cases e : MB Z j
    · rw [ibT e, if_neg (by decide), if_pos e, se, shl_n (show j < 31 by omega), t (2 ^ j) 0]
      exact ih' _ _
    · rw [ibF e, if_pos (by decide), if_neg e, show (0 : Int32) = nI 0 from rfl, t 0 0, Nat.or_zero]
      exact ih' _ _
theorem m_51e (hs : Sh h) (hN : 10000 ≤ N) (F0 : F2) (hA : A < 2 ^ 16) (hBl : B < 2 ^ 16) (l3 : Int32) : D_X12_night_51 N 1 (mh_w h (gz F0 Z)) 86 (nI kh) (nI k) l3 (nI A) (nI B) (nI (Z 1)) = if nI (pcn A) < nI kh then D_X12_night_130 N (mh_w h (gz F0 Z)) 86 else if nI k ≤ nI (pcn B) then D_X12_night_139 N N (mh_w h (gz F0 Z)) 86 (nI kh) (nI k) l3 (nI A) (nI B) (nI 0) else D_X12_night_130 N (mh_w h (gz F0 Z)) 86 := by
  have e1 : aI (mh_w h (gz F0 Z)) 87 (1 : Int32) = some (nI (Z 1)) := ai_87 hs _ Z (n := 1) (by decide)
  rw [D_X12_night_51, gr_86_0 hs, some_bind, e1, some_bind, if_pos (Int32.le_refl _), m_ones hN _ hA, some_bind]
  dsimp only
  rw [m_ones hN _ hBl, some_bind]
  rfl
theorem m_130 (hs : Sh h) (N : Nat) (G : F2) (C : C2) (Z : Z1) : D_X12_night_130 N (mh_w h (gz (cz G C) Z)) 86 = some (-1000000 - nI 2, mh_w h (gz (cz (up2 G 90 2 (G 90 2 + 1)) C) Z)) := by
  unfold D_X12_night_130
  rw [ko_86 hs, show (2 : Int32) = nI 2 from rfl, m_er hs N G C Z (by decide) (by decide), some_bind]
end W07
