/-! night: the reference tries all sets of springs -/
section W04
variable {h : mh_H} {N n A B b g i j x k v s p a : Nat} {w no : Nat → Nat} {G F0 : F2} {C C' : C2} {Z : Z1}
theorem nI_bi3 {x n : Nat} (hx : x < 2 ^ 31) (hn : n < 32) : ((nI x >>> (nI n &&& 31)) &&& (1 : Int32)) = nI (x / 2 ^ n % 2) := by
  rw [show (nI n &&& 31) = (nI n &&& nI 31) from rfl, nI_shr' hx hn, show (1 : Int32) = nI 1 from rfl, nI_and, Nat.and_one_is_mod]
theorem m_299 (hs : Sh h) (hN : 10000 ≤ N) (h16 : Z 1 ≤ 16) (ha : a < 2 ^ 16) (hb : b < 2 ^ 16) (hno : ∀ i, i < Z 1 → F0 100 i = nI (no i) ∧ no i < 2 ^ 16) (hp : p < 2 ^ 31) (l1 l2 l3 l4 l5 l7 l8 : Int32) (k251 : mh_H → Nat → Int32 → Int32 → Int32 → Int32 → Int32 → Int32 → Int32 → Int32 → Int32 → Option (Int32 × mh_H)) (k276 : mh_H → Nat → Int32 → Int32 → Int32 → Int32 → Int32 → Int32 → Int32 → Int32 → Int32 → Int32 → Option (Int32 × mh_H)) : ∀ m i n F, i + m = Z 1 → m < F → n ≤ 16 * i → D_X12_night_299 N k251 k276 F (mh_w h (gz F0 Z)) 86 l1 l2 l3 l4 l5 (pm p) l7 l8 (nI a) (nI b) (nI n) (nI i) = if p ≤ n + sumR (fun h => if a.testBit h = true then pcn (no h &&& b) else 0) i m then D_X12_night_371 N k251 k276 (mh_w h (gz F0 Z)) 86 l1 l2 l3 l4 l5 (pm (n + sumR (fun h => if a.testBit h = true then pcn (no h &&& b) else 0) i m + 1)) (nI a) (nI b) (nI a) (nI b) else D_X12_night_371 N k251 k276 (mh_w h (gz F0 Z)) 86 l1 l2 l3 l4 l5 (pm p) l7 l8 (nI a) (nI b) := by
  intro m
  induction m with
  | zero =>
    intro i n F hk hF hn
    obtain ⟨F, rfl⟩ : ∃ F1, F = F1 + 1 := ⟨F - 1, by omega⟩
    rw [D_X12_night_299, gr_86_0 hs, some_bind, show (1 : Int32) = nI 1 from rfl, ai_87 hs _ _ (by decide), some_bind, show i = Z 1 by omega, if_pos (Int32.le_refl _), sumR, Nat.add_zero]
    by_cases e : p ≤ n
    · rw [if_pos ((pm_lt (by omega) hp).mpr e), if_pos e, pm_s]
    · rw [if_neg (fun q => e ((pm_lt (by omega) hp).mp q)), if_neg e]
  | succ m ih =>
    intro i n F hk hF hn
    obtain ⟨F, rfl⟩ : ∃ F1, F = F1 + 1 := ⟨F - 1, by omega⟩
    have hi : i < Z 1 := by omega
    obtain ⟨f1, f2⟩ := hno i hi
    have nl : ¬ nI (Z 1) ≤ nI i := fun q => by
      have := (nI_leI (by omega) (by omega)).mp q
      omega
    have e1 : aI (mh_w h (gz F0 Z)) 87 (1 : Int32) = some (nI (Z 1)) := ai_87 hs F0 Z (n := 1) (by decide)
    rw [D_X12_night_299, gr_86_0 hs, some_bind, e1, some_bind, if_neg nl, nI_bi3 (by omega) (by omega), sumR]
    by_cases q : a.testBit i = true
    · have e2 : a / 2 ^ i % 2 = 1 := (bit_div a i).mpr q
      have hl := pcn_le (no i &&& b)
      have hlt : no i &&& b < 2 ^ 16 := Nat.lt_of_le_of_lt Nat.and_le_left f2
      rw [e2, if_pos (show nI 1 = (1 : Int32) from rfl), gr_86_20 hs, some_bind, ai_100 hs _ _ (by omega), some_bind, f1, nI_and, m_ones hN _ hlt, some_bind]
      unfold D_X12_night_340
      dsimp only
      rw [nI_add, show Int32.ofInt 1 = nI 1 from rfl, nI_add, ih (i + 1) (n + pcn (no i &&& b)) F (by omega) (by omega) (by omega), if_pos q, Nat.add_assoc]
    · have e2 : a / 2 ^ i % 2 = 0 := by rw [bit_01, if_neg q]
      rw [e2, if_neg (by decide)]
      unfold D_X12_night_340
      rw [show (0 : Int32) = nI 0 from rfl, nI_add, show Int32.ofInt 1 = nI 1 from rfl, nI_add, ih (i + 1) (n + 0) F (by omega) (by omega) (by omega), if_neg q, Nat.add_assoc]
/-- the subsets, and then none -/
def pdz (A i : Nat) : Nat := if i < 2 ^ pcn A then pd 16 A i else 0
theorem p2 (A : Nat) : 1 ≤ 2 ^ pcn A ∧ 2 ^ pcn A ≤ 65536 := ⟨Nat.pow_pos (by decide), (show 2 ^ pcn A ≤ 2 ^ 16 from Nat.pow_le_pow_right (by decide) (pcn_le A))⟩
theorem pdz_T (hi : i < 2 ^ pcn A) : pdz A i = pd 16 A i := if_pos hi
theorem pdz_n (hA : A < 2 ^ 16) (hi : i < 2 ^ pcn A) : (nI (pdz A i) - nI A) &&& nI A = nI (pdz A (i + 1)) := by
  rw [pdz_T hi]
  by_cases e : i + 1 < 2 ^ pcn A
  · rw [pdz_T e, nxt_pd hA e]
  · have e2 : i = 2 ^ pcf 16 A - 1 := by
      have : 2 ^ pcn A = 2 ^ pcf 16 A := rfl
      omega
    rw [e2, pd_last 16 A hA, nxt_end]
    unfold pdz
    rw [if_neg (by
      have : 2 ^ pcn A = 2 ^ pcf 16 A := rfl
      omega)]
theorem pdz_1 (hA : A < 2 ^ 16) : nI A &&& (-nI A) = nI (pdz A 1) := by
  have q := pdz_n (i := 0) hA (p2 A).1
  rw [pdz_T (p2 A).1, pd_0] at q
  rw [nxt_neg, q]
theorem pdz_p (h1 : 1 ≤ i) (hi : i < 2 ^ pcn A) : 0 < pd 16 A i := by
  have := pd_mono 16 A 0 i (by omega) hi
  omega
/-- what trying all sets from i on leaves -/
def FN (w : Nat → Nat) (B k a i p : Nat) (bh bs : Int32) (p' : Nat) (bh' bs' : Int32) : Prop := (p' = p ∧ bh' = bh ∧ bs' = bs ∧ ∀ i', i ≤ i' → i' < 2 ^ pcn B → pcn (pd 16 B i') = k → sc w (pd 16 B i') < p) ∨ ∃ i0, i ≤ i0 ∧ i0 < 2 ^ pcn B ∧ pcn (pd 16 B i0) = k ∧ p' = sc w (pd 16 B i0) + 1 ∧ bh' = nI a ∧ bs' = nI (pd 16 B i0) ∧ p ≤ sc w (pd 16 B i0) ∧ ∀ i', i ≤ i' → i' < 2 ^ pcn B → pcn (pd 16 B i') = k → sc w (pd 16 B i') ≤ sc w (pd 16 B i0) ∧ (sc w (pd 16 B i') = sc w (pd 16 B i0) → i0 ≤ i')
theorem FN_skip {bh bs bh' bs' : Int32} {p' : Nat} (hF : FN w B k a (i + 1) p bh bs p' bh' bs') (hn : pcn (pd 16 B i) = k → sc w (pd 16 B i) < p) : FN w B k a i p bh bs p' bh' bs' := by
  rcases hF with ⟨q1, q2, q3, q4⟩ | ⟨i0, r1, r2, r3, r4, r5, r6, r7, r8⟩
  · refine Or.inl ⟨q1, q2, q3, fun i' h1 h2 h3 => ?_⟩
    by_cases e : i' = i
    · rw [e] at h3 ⊢; exact hn h3
    · exact q4 i' (by omega) h2 h3
  · refine Or.inr ⟨i0, by omega, r2, r3, r4, r5, r6, r7, fun i' h1 h2 h3 => ?_⟩
    by_cases e : i' = i
    · rw [e] at h3 ⊢
      have := hn h3
      omega
    · exact r8 i' (by omega) h2 h3
theorem FN_take {bh bs bh' bs' : Int32} {p' : Nat} (hi : i < 2 ^ pcn B) (hk : pcn (pd 16 B i) = k) (hp : p ≤ sc w (pd 16 B i)) (hF : FN w B k a (i + 1) (sc w (pd 16 B i) + 1) (nI a) (nI (pd 16 B i)) p' bh' bs') : FN w B k a i p bh bs p' bh' bs' := by
  rcases hF with ⟨q1, q2, q3, q4⟩ | ⟨i0, r1, r2, r3, r4, r5, r6, r7, r8⟩
  · refine Or.inr ⟨i, Nat.le_refl _, hi, hk, q1, q2, q3, hp, fun i' h1 h2 h3 => ?_⟩
    by_cases e : i' = i
    · rw [e]; exact ⟨Nat.le_refl _, fun _ => Nat.le_refl _⟩
    · have := q4 i' (by omega) h2 h3
      exact ⟨by omega, fun _ => h1⟩
  · refine Or.inr ⟨i0, by omega, r2, r3, r4, r5, r6, by omega, fun i' h1 h2 h3 => ?_⟩
    by_cases e : i' = i
    · rw [e]; exact ⟨by omega, fun _ => by omega⟩
    · exact r8 i' (by omega) h2 h3
theorem sc_lt (w : Nat → Nat) (hw : ∀ t, w t ≤ 16) (b : Nat) : sc w b ≤ 256 := by
  have : sc w b ≤ sumR (fun _ => 16) 0 16 := by
    unfold sc
    refine sumR_le (fun t => ?_) 16 0
    have := hw t
    split <;> omega
  have e : sumR (fun _ => 16) 0 16 = 256 := by decide
  omega
theorem m_276 (hs : Sh h) (hN : 10000 ≤ N) (h16 : Z 1 ≤ 16) (ha : a < 2 ^ 16) (hB : B < 2 ^ 16) (hno : ∀ i, i < Z 1 → F0 100 i = nI (no i) ∧ no i < 2 ^ 16) (hk : k ≤ 16) (hw : ∀ t, w t ≤ 16) (hsum : ∀ b, b &&& B = b → sumR (fun h => if a.testBit h = true then pcn (no h &&& b) else 0) 0 (Z 1) = sc w b) (l1 l3 l4 : Int32) (k251 : mh_H → Nat → Int32 → Int32 → Int32 → Int32 → Int32 → Int32 → Int32 → Int32 → Int32 → Option (Int32 × mh_H)) : ∀ m i p bh bs F, i + m = 2 ^ pcn B → 1 ≤ i → m < F → p ≤ 257 → ∃ p' bh' bs', p' ≤ 257 ∧ FN w B k a i p bh bs p' bh' bs' ∧ D_X12_night_276 N k251 F (mh_w h (gz F0 Z)) 86 l1 (nI k) l3 l4 (nI B) (pm p) bh bs (nI a) (nI (pdz B i)) = D_X12_night_384 N k251 (mh_w h (gz F0 Z)) 86 l1 (nI k) l3 l4 (nI B) (pm p') bh' bs' (nI a) := by
  intro m
  induction m with
  | zero =>
    intro i p bh bs F hm h1 hF hp
    obtain ⟨F, rfl⟩ : ∃ F1, F = F1 + 1 := ⟨F - 1, by omega⟩
    refine ⟨p, bh, bs, hp, Or.inl ⟨rfl, rfl, rfl, fun i' h1 h2 h3 => by omega⟩, ?_⟩
    have e0 : pdz B i = 0 := if_neg (by omega)
    rw [D_X12_night_276, e0, if_pos (show nI 0 = (0 : Int32) from rfl)]
  | succ m ih =>
    intro i p bh bs F hm h1 hF hp
    obtain ⟨F, rfl⟩ : ∃ F1, F = F1 + 1 := ⟨F - 1, by omega⟩
    have hi : i < 2 ^ pcn B := by omega
    have hb := pcn_pd (i := i) hB
    have hb0 := pdz_p (A := B) h1 hi
    have hpc := pcn_le (pd 16 B i)
    have nx := pdz_n hB hi
    rw [pdz_T hi] at nx
    have nz : ¬ nI (pd 16 B i) = (0 : Int32) := nI_ne0 hb0 (by omega)
    rw [pdz_T hi, D_X12_night_276, if_neg nz, m_ones hN _ hb, some_bind]
    dsimp only
    by_cases ek : pcn (pd 16 B i) = k
    · rw [ek, if_pos rfl, show (0 : Int32) = nI 0 from rfl, m_299 hs hN h16 ha hb hno (by omega) _ _ _ _ _ _ _ _ _ (Z 1) 0 0 N (by omega) (by omega) (by omega), Nat.zero_add, hsum _ (pd_sub 16 B i)]
      have hsl := sc_lt w hw (pd 16 B i)
      by_cases q : p ≤ sc w (pd 16 B i)
      · obtain ⟨p', bh', bs', r0, r1, r2⟩ := ih (i + 1) (sc w (pd 16 B i) + 1) (nI a) (nI (pd 16 B i)) F (by omega) (by omega) (by omega) (by omega)
        refine ⟨p', bh', bs', r0, FN_take hi ek q r1, ?_⟩
        rw [if_pos q]
        unfold D_X12_night_371
        rw [nx]
        exact r2
      · obtain ⟨p', bh', bs', r0, r1, r2⟩ := ih (i + 1) p bh bs F (by omega) (by omega) (by omega) hp
        refine ⟨p', bh', bs', r0, FN_skip r1 (fun _ => by omega), ?_⟩
        rw [if_neg q]
        unfold D_X12_night_371
        rw [nx]
        exact r2
    · obtain ⟨p', bh', bs', r0, r1, r2⟩ := ih (i + 1) p bh bs F (by omega) (by omega) (by omega) hp
      refine ⟨p', bh', bs', r0, FN_skip r1 (fun q => absurd q ek), ?_⟩
      rw [if_neg (fun q => ek ((nI_eq (by omega) (by omega)).mp q))]
      unfold D_X12_night_371
      rw [nx]
      exact r2
theorem fn_eq {pr ch p' : Nat} {bh bs bh' bs' : Int32} (hB : B < 2 ^ 16) (hk : 1 ≤ k) (hG : GI w B k 0 16 pr ch 0) (hF : FN w B k a 1 p bh bs p' bh' bs') : (p ≤ pr → p' = pr + 1 ∧ bh' = nI a ∧ bs' = nI ch) ∧ (¬ p ≤ pr → p' = p ∧ bh' = bh ∧ bs' = bs) := by
  obtain ⟨g1, g2, g3, v', s', g4, g5, g6⟩ := hG
  have cB : ch &&& B = ch := by
    apply Nat.eq_of_testBit_eq
    intro t
    rw [Nat.testBit_and]
    cases e : ch.testBit t with
    | false => rfl
    | true => rw [((g6 t (bit_lt g1 e)).mp e).1]; rfl
  obtain ⟨ig, hig, eg⟩ := pd_sur 16 B ch hB cB
  have ig1 : 1 ≤ ig := by
    by_cases e : ig = 0
    · rw [e, pd_0] at eg
      rw [← eg, show pcn 0 = 0 from by decide] at g2
      omega
    · omega
  have kg : pcn (pd 16 B ig) = k := by rw [eg]; omega
  have sg : sc w (pd 16 B ig) = pr := by rw [eg, g3]
  rcases hF with ⟨q1, q2, q3, q4⟩ | ⟨i0, r1, r2, r3, r4, r5, r6, r7, r8⟩
  · have := q4 ig ig1 hig kg
    rw [sg] at this
    exact ⟨fun e => by omega, fun _ => ⟨q1, q2, q3⟩⟩
  · obtain ⟨t1, t2⟩ := r8 ig ig1 hig kg
    obtain ⟨u1, u2⟩ := greedy (b := pd 16 B i0) g6 g4 (pd_sub 16 B i0) g1 (pcn_pd hB) (by rw [r3]; omega)
    rw [sg] at t1 t2
    rw [← g3] at u1 u2
    have es : sc w (pd 16 B i0) = pr := by omega
    have l1 := t2 es.symm
    have l2 := u2 es
    have l3 : pd 16 B i0 ≤ pd 16 B ig := by
      by_cases e : i0 = ig
      · rw [e]; exact Nat.le_refl _
      · exact Nat.le_of_lt (pd_mono 16 B i0 ig (by omega) hig)
    rw [eg] at l3
    have e3 : pd 16 B i0 = ch := by omega
    rw [es] at r4 r7
    rw [e3] at r6
    exact ⟨fun _ => ⟨r4, r5, r6⟩, fun e => absurd r7 e⟩
end W04
