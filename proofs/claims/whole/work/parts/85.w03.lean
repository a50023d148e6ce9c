/-! night: the class chooses springs -/
section W03
variable {h : mh_H} {N n A B b g i j x k v s p a : Nat} {w : Nat → Nat} {G F0 : F2} {C C' : C2}
/-- the night's plan: pairs, holes, springs -/
def plF (F : F2) (x y z : Int32) : F2 := fun a j => if a = 19 ∧ j = 0 then x else if a = 19 ∧ j = 1 then y else if a = 19 ∧ j = 2 then z else F a j
theorem plF_o {x y z : Int32} {a : Nat} (ha : a ≠ 19) : plF F0 x y z a = F0 a := by
  funext j
  unfold plF
  rw [if_neg (fun q => ha q.1), if_neg (fun q => ha q.1), if_neg (fun q => ha q.1)]
theorem plF_up (F : F2) (x y z : Int32) : up2 (up2 (up2 F 19 0 x) 19 1 y) 19 2 z = plF F x y z := by
  funext a j
  unfold plF up2
  by_cases e0 : a = 19 ∧ j = 0
  · simp only [if_neg (show ¬ (a = 19 ∧ j = 2) by omega), if_neg (show ¬ (a = 19 ∧ j = 1) by omega), if_pos e0]
  · by_cases e1 : a = 19 ∧ j = 1
    · simp only [if_neg (show ¬ (a = 19 ∧ j = 2) by omega), if_neg e0, if_pos e1]
    · by_cases e2 : a = 19 ∧ j = 2
      · simp only [if_neg e0, if_neg e1, if_pos e2]
      · simp only [if_neg e0, if_neg e1, if_neg e2]
theorem plF_pl (F : F2) (x y z x' y' z' : Int32) : plF (plF F x y z) x' y' z' = plF F x' y' z' := by
  funext a j
  unfold plF
  by_cases e0 : a = 19 ∧ j = 0
  · simp only [if_pos e0]
  · by_cases e1 : a = 19 ∧ j = 1
    · simp only [if_neg e0, if_pos e1]
    · by_cases e2 : a = 19 ∧ j = 2
      · simp only [if_neg e0, if_neg e1, if_pos e2]
      · simp only [if_neg e0, if_neg e1, if_neg e2]
/-- one less than a number, or -1 -/
def pm (p : Nat) : Int32 := nI p - nI 1
theorem pm_s (x : Nat) : pm (x + 1) = nI x := by
  unfold pm
  rw [nI_sub (by omega), Nat.add_sub_cancel]
theorem pm_s' (l : Nat) : nI (l + 1) + Int32.ofInt (-1) = nI l := by
  rw [show Int32.ofInt (-1) = -nI 1 from by decide, ← Int32.sub_eq_add_neg, nI_sub (by omega), Nat.add_sub_cancel]
theorem pm_0 : pm 0 = -1 := by decide
theorem le_pm {x : Nat} (hx : x < 2 ^ 31) (hp : p < 2 ^ 31) : (nI x ≤ pm p) ↔ x < p := by
  cases p with
  | zero =>
    refine ⟨fun q => ?_, fun q => absurd q (Nat.not_lt_zero _)⟩
    have q := Int32.le_iff_toInt_le.mp q
    rw [show (pm 0).toInt = -1 by decide, nI_toInt hx] at q
    omega
  | succ p =>
    rw [pm_s, nI_leI hx (by omega)]
    omega
theorem pm_lt {x : Nat} (hx : x < 2 ^ 31) (hp : p < 2 ^ 31) : (pm p < nI x) ↔ p ≤ x := by
  have := le_pm (p := p) hx hp
  rw [← Int32.not_le, this]
  omega
theorem c_ps23 (hs : Sh h) (N : Nat) (F0 : F2) (k15 : mh_H → Nat → Int32 → Int32 → Int32 → Int32 → Int32 → Int32 → Option mh_H) (ha : a < 2 ^ 16) (hB : B < 2 ^ 16) (hv : v ≤ 16) (hC : ∀ s, s < 16 → C 20 s < 2 ^ 16) : ∀ m s pr ch lf F, s + m = 16 → m < F → lf ≤ 16 → GI (fun s => pcn (a &&& C 20 s)) B k v s pr ch lf → ∃ pr' ch' lf', lf' ≤ 16 ∧ GI (fun s => pcn (a &&& C 20 s)) B k v 16 pr' ch' lf' ∧ D_X1_planSprings_23 N k15 F (mh_w h (cz F0 C)) 16 (nI a) (nI B) (nI pr) (nI ch) (nI lf) (nI v) (nI s) = k15 (mh_w h (cz F0 C)) 16 (nI a) (nI B) (nI pr') (nI ch') (nI lf') (nI v + Int32.ofInt (-1)) := by
  intro m
  induction m with
  | zero =>
    intro s pr ch lf F hk hF hl hG
    obtain ⟨F, rfl⟩ : ∃ F1, F = F1 + 1 := ⟨F - 1, by omega⟩
    obtain rfl : s = 16 := by omega
    refine ⟨pr, ch, lf, hl, hG, ?_⟩
    rw [D_X1_planSprings_23, if_pos (by decide)]
    rfl
  | succ m ih =>
    intro s pr ch lf F hk hF hl hG
    obtain ⟨F, rfl⟩ : ∃ F1, F = F1 + 1 := ⟨F - 1, by omega⟩
    have s16 : s < 16 := by omega
    have n16 : ¬ (16 : Int32) ≤ nI s := fun q => by
      have := (nI_leI (a := 16) (by decide) (by omega)).mp q
      omega
    rw [D_X1_planSprings_23, if_neg n16]
    by_cases l0 : lf = 0
    · subst l0
      refine ⟨pr, ch, 0, by omega, GI_0 hG v 16, ?_⟩
      rw [if_pos (by decide)]
      rfl
    · have nl : ¬ nI lf ≤ 0 := fun q => by
        have := (nI_leI (b := 0) (by omega) (by decide)).mp q
        omega
      rw [if_neg nl, bit_n N _ (by omega) (by omega), some_bind]
      by_cases hb : B.testBit s = true
      · have e1 : B / 2 ^ s % 2 = 1 := (bit_div B s).mpr hb
        have hc := hC s s16
        have ha2 : a &&& C 20 s < 2 ^ 16 := Nat.lt_of_le_of_lt Nat.and_le_left ha
        dsimp only
        rw [e1, if_pos (show nI 1 = (1 : Int32) from rfl), gr_16_5 hs, some_bind, ai_20 hs _ _ s16, some_bind, nI_and, bitCount_n N _ ha2, some_bind]
        dsimp only
        have hpl := pcn_le (a &&& C 20 s)
        by_cases ew : pcn (a &&& C 20 s) = v
        · obtain ⟨lf, rfl⟩ : ∃ l, lf = l + 1 := ⟨lf - 1, by omega⟩
          obtain ⟨pr', ch', lf', q1, q2, q3⟩ := ih (s + 1) (pr + v) (ch ||| 2 ^ s) lf F (by omega) (by omega) (by omega) (GI_take hG s16 hb ew)
          refine ⟨pr', ch', lf', q1, q2, ?_⟩
          have hsh := nI_seb ch (show s < 31 by omega)
          rw [ew, if_pos rfl]
          unfold D_X1_planSprings_81
          rw [show ((1 : Int32) <<< (nI s &&& 31)) = nI 1 <<< (nI s &&& nI 31) from rfl, hsh, nI_add, show nI (lf + 1) + Int32.ofInt (-1) = nI lf from pm_s' lf, show Int32.ofInt 1 = nI 1 from rfl, nI_add]
          exact q3
        · obtain ⟨pr', ch', lf', q1, q2, q3⟩ := ih (s + 1) pr ch lf F (by omega) (by omega) hl (GI_skip hG s16 (fun e => ew e.2))
          refine ⟨pr', ch', lf', q1, q2, ?_⟩
          rw [if_neg (fun e => ew ((nI_eq (by omega) (by omega)).mp e))]
          unfold D_X1_planSprings_81
          rw [show Int32.ofInt 1 = nI 1 from rfl, nI_add]
          exact q3
      · have e1 : B / 2 ^ s % 2 = 0 := by rw [bit_01, if_neg hb]
        obtain ⟨pr', ch', lf', q1, q2, q3⟩ := ih (s + 1) pr ch lf F (by omega) (by omega) hl (GI_skip hG s16 (fun e => hb e.1))
        refine ⟨pr', ch', lf', q1, q2, ?_⟩
        dsimp only
        rw [e1, if_neg (by decide)]
        unfold D_X1_planSprings_81
        rw [show Int32.ofInt 1 = nI 1 from rfl, nI_add]
        exact q3
theorem c_ps15 (hs : Sh h) (hN : 10000 ≤ N) (F0 : F2) (ha : a < 2 ^ 16) (hB : B < 2 ^ 16) (hC : ∀ s, s < 16 → C 20 s < 2 ^ 16) (hk : k ≤ pcn B) (h0 : F0 19 0 = pm p) (hp : p < 2 ^ 31) : ∀ v pr ch lf F, v ≤ 16 → v + 1 < F → lf ≤ 16 → GI (fun s => pcn (a &&& C 20 s)) B k v 0 pr ch lf → ∃ pr' ch', GI (fun s => pcn (a &&& C 20 s)) B k 0 16 pr' ch' 0 ∧ D_X1_planSprings_15 N F (mh_w h (cz F0 C)) 16 (nI a) (nI B) (nI pr) (nI ch) (nI lf) (nI v) = some (mh_w h (cz (if p ≤ pr' then plF F0 (pm (pr' + 1)) (nI a) (nI ch') else F0) C)) := by
  intro v
  induction v with
  | zero =>
    intro pr ch lf F hv hF hl hG
    obtain ⟨F, rfl⟩ : ∃ F1, F = F1 + 2 := ⟨F - 2, by omega⟩
    obtain ⟨pr', ch', lf', q1, q2, q3⟩ := c_ps23 hs N F0 (D_X1_planSprings_15 N (F + 1)) ha hB hv hC 16 0 pr ch lf N rfl (by omega) hl hG
    obtain rfl := GI_end q2 hk
    refine ⟨pr', ch', q2, ?_⟩
    rw [show F + 2 = (F + 1) + 1 from rfl, D_X1_planSprings_15, if_neg (by decide)]
    refine q3.trans ?_
    have hpr : pr' < 2 ^ 31 := by
      rw [q2.2.2.1]
      have : sc (fun s => pcn (a &&& C 20 s)) ch' ≤ sumR (fun _ => 16) 0 16 := by
        unfold sc
        refine sumR_le (fun t => ?_) 16 0
        have := pcn_le (a &&& C 20 t)
        split <;> omega
      have e : sumR (fun _ => 16) 0 16 = 256 := by decide
      omega
    rw [D_X1_planSprings_15, if_pos (by decide), gr_16_4 hs, some_bind, show (0 : Int32) = nI 0 from rfl, ai_19 hs _ _ (by decide), some_bind, h0]
    by_cases e : p ≤ pr'
    · rw [if_neg (fun q => by have := (le_pm hpr hp).mp q; omega), if_pos e, some_bind, ui_19 hs _ _ (by decide), some_bind, gr_16_4 hs, some_bind, show (1 : Int32) = nI 1 from rfl, ui_19 hs _ _ (by decide), some_bind, gr_16_4 hs, some_bind, show (2 : Int32) = nI 2 from rfl, ui_19 hs _ _ (by decide), some_bind, plF_up, pm_s]
    · rw [if_pos ((le_pm hpr hp).mpr (by omega)), if_neg e]
  | succ v ih =>
    intro pr ch lf F hv hF hl hG
    obtain ⟨F, rfl⟩ : ∃ F1, F = F1 + 1 := ⟨F - 1, by omega⟩
    obtain ⟨pr', ch', lf', q1, q2, q3⟩ := c_ps23 hs N F0 (D_X1_planSprings_15 N F) ha hB hv hC 16 0 pr ch lf N rfl (by omega) hl hG
    obtain ⟨pr2, ch2, r1, r2⟩ := ih pr' ch' lf' F (by omega) (by omega) q1 (GI_down q2)
    refine ⟨pr2, ch2, r1, ?_⟩
    have nv : ¬ nI (v + 1) < 0 := fun q => by
      have := (nI_ltI (b := 0) (by omega) (by decide)).mp q
      omega
    rw [D_X1_planSprings_15, if_neg nv]
    refine q3.trans ?_
    rw [show nI (v + 1) + Int32.ofInt (-1) = nI v from pm_s' v]
    exact r2
theorem c_ps (hs : Sh h) (hN : 10000 ≤ N) (F0 : F2) (ha : a < 2 ^ 16) (hB : B < 2 ^ 16) (hC : ∀ s, s < 16 → C 20 s < 2 ^ 16) (hk : k ≤ pcn B) (h0 : F0 19 0 = pm p) (hp : p < 2 ^ 31) : ∃ pr ch, GI (fun s => pcn (a &&& C 20 s)) B k 0 16 pr ch 0 ∧ D_X1_planSprings N (mh_w h (cz F0 C)) 16 (nI a) (nI B) (nI k) = some (mh_w h (cz (if p ≤ pr then plF F0 (pm (pr + 1)) (nI a) (nI ch) else F0) C)) := by
  have hpa := pcn_le a
  have hpB := pcn_le B
  obtain ⟨pr, ch, q1, q2⟩ := c_ps15 (k := k) hs hN F0 ha hB hC hk h0 hp (pcn a) 0 0 k N hpa (by omega) (by omega) ⟨by decide, by rw [show pcn 0 = 0 from by decide]; omega, (sumR_z 16 0 (fun t _ _ => if_neg (by rw [Nat.zero_testBit]; decide))).symm, pcn a, 0, by decide, fun _ => ⟨rfl, rfl⟩, fun t ht => ⟨fun q => (by rw [Nat.zero_testBit] at q; cases q), fun q => (by have := q.2; have h2 : pcn (a &&& C 20 t) ≤ pcn a := pcf_and_le 16 _ _; dsimp only at this; omega)⟩⟩
  refine ⟨pr, ch, q1, ?_⟩
  unfold D_X1_planSprings
  rw [bitCount_n N _ ha, some_bind]
  exact q2
end W03
