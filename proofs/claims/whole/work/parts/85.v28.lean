/-! a spill begins: both rows cleared, the trial's water stands -/
section P28
variable {h h' : mh_H} {b n N w p now J j c x t A S m o y H : Nat} {G F0 F1 : F2} {C C' C0 : C2} {Z Z' Z'' Z0 : Z1} {T τ : Nat → Nat}
abbrev W4 (z : Nat) : Prop := (54 ≤ z ∧ z < 230 ∧ (z - 54) % 11 = 0) ∨ (229 ≤ z ∧ z < 5380 ∧ (z - 229) % 215 % 5 = 0 ∧ (z - 229) % 215 ≤ 205)
def c0Z (Z : Z1) : Z1 := fun z => if W4 z then 0 else Z z
def spZ (Z : Z1) (j q : Nat) : Z1 := upZ (c0Z Z) (54 + 11 * j) q
theorem sWy_eq (Z : Z1) : ∀ k, k ≤ 24 → ∀ z, sWy Z k z = if 229 ≤ z ∧ z < 229 + 215 * k ∧ (z - 229) % 215 % 5 = 0 ∧ (z - 229) % 215 ≤ 205 then 0 else Z z := by
  intro k
  induction k with
  | zero => intro _ z; rw [sWy, if_neg (by omega)]
  | succ k ih =>
    intro hk z
    rw [sWy]
    unfold sIn
    by_cases e : 234 + 215 * k ≤ z ∧ z < 234 + 215 * k + 5 * 41 ∧ (z - (234 + 215 * k)) % 5 = 0
    · rw [if_pos e, if_pos (by omega)]
    · rw [if_neg e]
      by_cases e2 : z = 229 + 215 * k
      · rw [e2, upZ_s, if_pos (by omega)]
      · rw [upZ_n e2, ih (by omega) z]
        by_cases e3 : 229 ≤ z ∧ z < 229 + 215 * k ∧ (z - 229) % 215 % 5 = 0 ∧ (z - 229) % 215 ≤ 205
        · rw [if_pos e3, if_pos (by omega)]
        · rw [if_neg e3, if_neg (by omega)]
theorem sp_eq (h16 : Z 1 ≤ 16) (h24 : Z 2 ≤ 24) (hj : j < Z 1) {q : Nat} (b1 : ∀ j, Z 1 ≤ j → j < 16 → ∀ k, k < 11 → Z (44 + 11 * j + k) = 0) (b2 : ∀ i, Z 2 ≤ i → i < 24 → ∀ k, k < 215 → Z (220 + 215 * i + k) = 0) : sWy (sJt Z j q (Z 1)) (Z 2) = spZ Z j q := by
  funext z
  rw [sWy_eq _ _ h24]
  unfold spZ upZ c0Z sJt
  by_cases e : z = 54 + 11 * j
  · simp only [if_pos e]
    rw [if_neg (by omega), if_pos (by omega)]
  · simp only [if_neg e]
    by_cases e1 : 229 ≤ z ∧ z < 229 + 215 * Z 2 ∧ (z - 229) % 215 % 5 = 0 ∧ (z - 229) % 215 ≤ 205
    · rw [if_pos e1, if_pos (Or.inr (by omega))]
    · rw [if_neg e1]
      by_cases e2 : 54 ≤ z ∧ z < 54 + 11 * Z 1 ∧ (z - 54) % 11 = 0
      · rw [if_pos e2, if_pos (Or.inl (by omega))]
      · rw [if_neg e2]
        by_cases e3 : W4 z
        · rw [if_pos e3]
          rcases e3 with e3 | e3
          · have q := b1 ((z - 54) / 11) (by omega) (by omega) 10 (by decide)
            rwa [show 44 + 11 * ((z - 54) / 11) + 10 = z by omega] at q
          · have q := b2 ((z - 229) / 215) (by omega) (by omega) (9 + (z - 229) % 215) (by omega)
            rwa [show 220 + 215 * ((z - 229) / 215) + (9 + (z - 229) % 215) = z by omega] at q
        · rw [if_neg e3]
theorem W4_cst {z : Nat} (hz : cst z) : ¬ W4 z := by
  unfold W4
  rcases hz with q | q | ⟨j, q1, q⟩ | ⟨i, k, q1, q2, q⟩ | q <;> omega
theorem W4_hi {z : Nat} (hz : 5380 ≤ z) : ¬ W4 z := by
  unfold W4
  omega
set_option maxHeartbeats 4000000 in
theorem Pl_W4 {a i z : Nat} (hT : Tb n T) (hP : Pl b n T τ a i z) : W4 z ↔ (a = b + 3 ∧ i % 5 = 4 ∧ i < 5 * 16) ∨ (a = b + 4 ∧ i % 5 = 4 ∧ i < 5 * 960) ∨ (a = b + 5 ∧ i % 5 = 4 ∧ i < 5 * 24) := by
  have b3 := hT.1
  unfold W4
  rcases hP with h | h | h | ⟨c, h⟩ | ⟨c, k, h⟩ | ⟨j, h⟩ | ⟨j, c, h⟩ | ⟨w, t, h⟩ | ⟨j, h⟩ | ⟨j, h⟩ | ⟨j, c, r, h⟩ | ⟨w, t, s, q, w1, t1, q1, h⟩
  case inr.inr.inr.inr.inr.inr.inr.inr.inr.inr.inr =>
    have b1 := hT.2 w w1
    have b2 := SQ_b b1.1 q1
    omega
  all_goals omega
def spC (C : C2) : C2 := clC (clC (clC C 66 16) 67 960) 68 24
theorem spC_v (C : C2) (a i : Nat) : spC C a i = if (a = 63 + 3 ∧ i % 5 = 4 ∧ i < 5 * 16) ∨ (a = 63 + 4 ∧ i % 5 = 4 ∧ i < 5 * 960) ∨ (a = 63 + 5 ∧ i % 5 = 4 ∧ i < 5 * 24) then 0 else C a i := by
  unfold spC clC
  by_cases e1 : a = 68 ∧ i % 5 = 4 ∧ i < 5 * 24
  · rw [if_pos e1, if_pos (by omega)]
  · rw [if_neg e1]
    by_cases e2 : a = 67 ∧ i % 5 = 4 ∧ i < 5 * 960
    · rw [if_pos e2, if_pos (by omega)]
    · rw [if_neg e2]
      by_cases e3 : a = 66 ∧ i % 5 = 4 ∧ i < 5 * 16
      · rw [if_pos e3, if_pos (by omega)]
      · rw [if_neg e3, if_neg (by omega)]
theorem spC_o {a : Nat} (ha : a < 63 ∨ 77 < a) : spC C a = C a := by
  funext i
  rw [spC_v, if_neg (by omega)]
theorem HR.sp (hT : Tb n T) (hR : HR 63 n T τ C Z) : HR 63 n T τ (spC C) (c0Z Z) := by
  obtain ⟨r1, r2, r3⟩ := hR
  refine ⟨fun a i z hP => ?_, fun z hz => ?_, fun i hi => ?_⟩
  · rw [spC_v]
    unfold c0Z
    by_cases e : W4 z
    · rw [if_pos e, if_pos ((Pl_W4 hT hP).mp e)]
    · rw [if_neg e, if_neg (fun q => e ((Pl_W4 hT hP).mpr q))]
      exact r1 a i z hP
  · unfold c0Z
    by_cases e : W4 z
    · rw [if_pos e]
    · rw [if_neg e]; exact r2 z hz
  · rw [spC_v]
    have := r3 i hi
    split
    · rfl
    · exact this
theorem tot_c4 : tot (c0Z Z) 4 = 0 := by
  have e : ∀ l : List Nat, (∀ z ∈ l, W4 z) → (l.map (c0Z Z)).sum = 0 := by
    intro l
    induction l with
    | nil => intro _; rfl
    | cons a l ih =>
      intro q
      rw [List.map_cons, List.sum_cons, ih (fun z hz => q z (List.mem_cons_of_mem _ hz))]
      unfold c0Z
      rw [if_pos (q a (List.mem_cons_self ..))]
  refine e _ fun z hz => ?_
  rcases thL_iff.mp hz with ⟨j, hj, q⟩ | ⟨w, hw, q⟩ | ⟨w, k, hw, hk, q⟩
  · rw [if_neg (by decide)] at q
    exact Or.inl (by omega)
  · exact Or.inr (by omega)
  · exact Or.inr (by omega)
theorem tot_co {t : Nat} (ht : t < 4) : tot (c0Z Z) t = tot Z t := by
  refine tot.zw fun z hz => ?_
  unfold c0Z
  refine if_neg ?_
  unfold W4
  rcases thL_iff.mp hz with ⟨j, hj, q⟩ | ⟨w, hw, q⟩ | ⟨w, k, hw, hk, q⟩
  · by_cases e : t = 0
    · rw [if_pos e] at q; omega
    · rw [if_neg e] at q; omega
  · omega
  · omega
theorem spZ_tot {q : Nat} (hj : j < 16) : (∀ t, t < 4 → tot (spZ Z j q) t = tot Z t) ∧ tot (spZ Z j q) 4 = q := by
  unfold spZ
  constructor
  · intro t ht
    have n4 := ni_at (c := 3) (t' := t) hj (by decide) (by omega) (by omega)
    rw [show 51 + 11 * j + 3 = 54 + 11 * j by omega] at n4
    rw [tot_out n4, tot_co ht]
  · have i4 := it_at (c := 3) hj
    rw [show 51 + 11 * j + 3 = 54 + 11 * j by omega] at i4
    have a := tot_in (Z := c0Z Z) (by decide) i4 q
    have z0 : c0Z Z (54 + 11 * j) = 0 := if_pos (Or.inl (by omega))
    have t4 := tot_c4 (Z := Z)
    rw [z0] at a
    have e : tot (upZ (c0Z Z) (54 + 11 * j) q) 4 + 0 = tot (c0Z Z) 4 + q := a
    rw [t4] at e
    omega
theorem SKz.sp {q : Nat} (hj : j < 16) : SKz Z (spZ Z j q) := fun z hz => by
  have nc : z ≠ 54 + 11 * j := fun e => W4_cst hz (Or.inl (by omega))
  unfold spZ
  rw [upZ_n nc]
  exact if_neg (W4_cst hz)
theorem tk_sp {q : Nat} (hj : j < 16) : tk (spZ Z j q) = tk Z := by
  have e : ∀ z, ¬ W4 z → spZ Z j q z = Z z := fun z hz => by
    unfold spZ
    rw [upZ_n (fun e => hz (Or.inl (by omega)))]
    exact if_neg hz
  funext i
  unfold tk
  rw [e (220 + 215 * i) (by unfold W4; omega), e (223 + 215 * i) (by unfold W4; omega)]
theorem Pl_at4 (hj : j < 16) : Pl b n T τ (b + 3) (j * 5 + 4) (54 + 11 * j) := Or.inr (Or.inr (Or.inr (Or.inr (Or.inr (Or.inr (Or.inl ⟨j, 3, hj, by decide, rfl, by omega, by omega⟩))))))
theorem tr_sp (hTX : TXc TXt) {q : Nat} (hj : j < 16) (hq : q ≤ 9999) (hR : TR h G C Z) : TR h G (upC (spC C) 66 (j * 5 + 4) q) (spZ Z j q) := by
  obtain ⟨hs, hK, hW, hX, e1, e2, e3, hH, hB⟩ := hR
  have hS : SKz Z (spZ Z j q) := SKz.sp hj
  have hC : CZ Z (spZ Z j q) := fun z hz _ => hS z hz
  have n24 := hK.2.2.1
  have z0 := hS.lo (z := 0) (by decide)
  have z1 := hS.lo (z := 1) (by decide)
  have z2 := hS.lo (z := 2) (by decide)
  have hT := hK.tb
  have fr : ∀ a, a < 63 ∨ 77 < a → upC (spC C) 66 (j * 5 + 4) q a = C a := fun a ha => by rw [upC_o (by omega), spC_o ha]
  obtain ⟨t1, t2⟩ := spZ_tot (Z := Z) (q := q) hj
  refine ⟨hs, hK.sk hS, fun w hw => ?_, ?_, ?_, ?_, fun i hi => ?_, ?_, fun c hc => ?_⟩
  · rw [z2] at hw
    obtain ⟨p, hp⟩ := hW w hw
    exact ⟨p, hp.cz' hC (by omega)⟩
  · exact (hX.zc hTX (by decide) (fun k k1 _ => hC.hi (by omega))).congr (fr 25 (by omega)) (fr 26 (by omega))
  · rw [fr 1 (by omega), z1]; exact e1
  · rw [fr 1 (by omega), z2]; exact e2
  · rw [fr 2 (by omega), hS.jn hi]; exact e3 i hi
  · rw [z2, z0, tk_sp hj]
    exact (hH.sp hT).up hT (Pl_at4 hj) q
  · by_cases e : c = 3
    · rw [e]
      have : tot (spZ Z j q) (1 + 3) = q := t2
      omega
    · rw [t1 (1 + c) (by omega)]
      exact hB c hc
theorem c_spl (hs : Sh h) (hN : 10000 ≤ N) (F0 : F2) {q : Nat} (hj : j < 16) (k1 : D_X8_copyOf N (mh_w h (cz F0 C)) 63 6 = some (mh_w h (cz F0 C'))) : D_X8_startSpill N (mh_w h (cz F0 C)) 63 6 (nI j) (nI q) = some (mh_w h (cz F0 (upC (spC C') 66 (j * 5 + 4) q))) := by
  have a1 := c_s12 (j := j) (q := q) hs N F0 C' 16 0 N rfl (by omega)
  have a2 := c_s40 (j := j) (q := q) hs N F0 (clC C' 66 16) 960 0 N rfl (by omega)
  have a3 := c_s68 (j := j) (q := q) hs N F0 (clC (clC C' 66 16) 67 960) hj 24 0 N rfl (by omega)
  rw [clC_0] at a1 a2 a3
  have a4 := a1.trans (a2.trans a3)
  rw [show 5 * 0 + 4 = 4 from rfl] at a4
  unfold spC
  unfold D_X8_startSpill; try dsimp only
  repeat (first | ((with_reducible refine Eq.trans (kO_s hs _ ?_ ?_) ?_); decide; decide) | ((with_reducible refine Eq.trans (bind_of (a := ?_) ?_ _) ?_); rotate_left; (focus (simp (disch := first | assumption | decide | omega) only [k1, a4, ib0, ib1, not_true_eq_false, not_false_eq_true, lit, lt64, ofI1, some_bind, if_ib', zB_ib, zBn0, zBn1, zBn, dN_n, nI_add, nI_mul, nI_md, nI_sub, nI_div, md, le_pred, lt_T, lt_F, le_T, le_F, eq_T, eq_F, ng_le, ng_lt, lt_ng, le_ng, eq_ng, max_n, min_n, and_true, true_and, and_false, false_and, and_self, if_true, if_false, ite_self, ↓reduceIte, l_within, l_isC, l_isS, bit_n, c_isJ hs, c_er hs, gr_0_0 hs, gr_0_1 hs, gr_0_2 hs, gr_0_3 hs, gr_0_4 hs, gr_0_5 hs, gr_0_6 hs, gr_0_7 hs, gr_0_8 hs, gr_0_9 hs, gr_1_3 hs, gr_1_4 hs, gr_1_5 hs, gr_1_6 hs, gr_1_7 hs, gr_1_8 hs, gr_1_9 hs, gr_1_10 hs, gr_1_11 hs, gr_1_12 hs, gr_6_3 hs, gr_6_4 hs, gr_6_5 hs, gr_6_6 hs, gr_6_7 hs, gr_6_8 hs, gr_6_9 hs, gr_6_10 hs, gr_6_11 hs, gr_16_2 hs, gr_16_3 hs, gr_16_4 hs, gr_16_5 hs, gr_16_6 hs, gr_16_7 hs, gr_23_0 hs, gr_25_0 hs, gr_27_0 hs, gr_29_0 hs, gr_32_3 hs, gr_32_4 hs, gr_32_5 hs, gr_32_6 hs, gr_32_7 hs, gr_32_8 hs, gr_32_9 hs, gr_32_10 hs, gr_32_11 hs, gr_32_12 hs, gr_37_3 hs, gr_37_4 hs, gr_37_5 hs, gr_37_6 hs, gr_37_7 hs, gr_37_8 hs, gr_37_9 hs, gr_37_10 hs, gr_37_11 hs, gr_47_2 hs, gr_47_3 hs, gr_47_4 hs, gr_47_5 hs, gr_47_6 hs, gr_47_7 hs, gr_54_0 hs, gr_56_0 hs, gr_58_0 hs, gr_60_0 hs, gr_63_3 hs, gr_63_4 hs, gr_63_5 hs, gr_63_6 hs, gr_63_7 hs, gr_63_8 hs, gr_63_9 hs, gr_63_10 hs, gr_63_11 hs, gr_73_0 hs, gr_73_1 hs, gr_73_2 hs, gr_75_0 hs, gr_79_0 hs, ko_0 hs, gi_0 hs, pi_0 hs, ko_1 hs, gi_1 hs, pi_1 hs, al_2 hs, ai_2 hs, ui_2 hs, al_3 hs, ai_3 hs, ui_3 hs, al_4 hs, ai_4 hs, ui_4 hs, ko_6 hs, gi_6 hs, pi_6 hs, al_7 hs, ai_7 hs, ui_7 hs, al_8 hs, ai_8 hs, ui_8 hs, al_9 hs, ai_9 hs, ui_9 hs, al_10 hs, ai_10 hs, ui_10 hs, al_11 hs, ai_11 hs, ui_11 hs, al_12 hs, ai_12 hs, ui_12 hs, al_13 hs, ai_13 hs, ui_13 hs, al_14 hs, ai_14 hs, ui_14 hs, al_15 hs, ai_15 hs, ui_15 hs, ko_16 hs, gi_16 hs, pi_16 hs, al_17 hs, ai_17 hs, ui_17 hs, al_18 hs, ai_18 hs, ui_18 hs, al_19 hs, ai_19 hs, ui_19 hs, al_20 hs, ai_20 hs, ui_20 hs, al_21 hs, ai_21 hs, ui_21 hs, al_22 hs, ai_22 hs, ui_22 hs, ko_23 hs, gi_23 hs, pi_23 hs, al_24 hs, ai_24 hs, ui_24 hs, ko_25 hs, gi_25 hs, pi_25 hs, al_26 hs, ai_26 hs, ui_26 hs, ko_27 hs, gi_27 hs, pi_27 hs, al_28 hs, ai_28 hs, ui_28 hs, ko_29 hs, gi_29 hs, pi_29 hs, al_30 hs, ai_30 hs, ui_30 hs, ko_31 hs, gi_31 hs, pi_31 hs, ko_32 hs, gi_32 hs, pi_32 hs, al_33 hs, ai_33 hs, ui_33 hs, al_34 hs, ai_34 hs, ui_34 hs, al_35 hs, ai_35 hs, ui_35 hs, ko_37 hs, gi_37 hs, pi_37 hs, al_38 hs, ai_38 hs, ui_38 hs, al_39 hs, ai_39 hs, ui_39 hs, al_40 hs, ai_40 hs, ui_40 hs, al_41 hs, ai_41 hs, ui_41 hs, al_42 hs, ai_42 hs, ui_42 hs, al_43 hs, ai_43 hs, ui_43 hs, al_44 hs, ai_44 hs, ui_44 hs, al_45 hs, ai_45 hs, ui_45 hs, al_46 hs, ai_46 hs, ui_46 hs, ko_47 hs, gi_47 hs, pi_47 hs, al_48 hs, ai_48 hs, ui_48 hs, al_49 hs, ai_49 hs, ui_49 hs, al_50 hs, ai_50 hs, ui_50 hs, al_51 hs, ai_51 hs, ui_51 hs, al_52 hs, ai_52 hs, ui_52 hs, al_53 hs, ai_53 hs, ui_53 hs, ko_54 hs, gi_54 hs, pi_54 hs, al_55 hs, ai_55 hs, ui_55 hs, ko_56 hs, gi_56 hs, pi_56 hs, al_57 hs, ai_57 hs, ui_57 hs, ko_58 hs, gi_58 hs, pi_58 hs, al_59 hs, ai_59 hs, ui_59 hs, ko_60 hs, gi_60 hs, pi_60 hs, al_61 hs, ai_61 hs, ui_61 hs, ko_62 hs, gi_62 hs, pi_62 hs, ko_63 hs, gi_63 hs, pi_63 hs, al_64 hs, ai_64 hs, ui_64 hs, al_65 hs, ai_65 hs, ui_65 hs, al_66 hs, ai_66 hs, ui_66 hs, al_67 hs, ai_67 hs, ui_67 hs, al_68 hs, ai_68 hs, ui_68 hs, al_69 hs, ai_69 hs, ui_69 hs, al_70 hs, ai_70 hs, ui_70 hs, al_71 hs, ai_71 hs, ui_71 hs, al_72 hs, ai_72 hs, ui_72 hs, ko_73 hs, gi_73 hs, pi_73 hs, al_74 hs, ai_74 hs, ui_74 hs, ko_75 hs, gi_75 hs, pi_75 hs, al_76 hs, ai_76 hs, ui_76 hs, al_77 hs, ai_77 hs, ui_77 hs, al_78 hs, ai_78 hs, ui_78 hs, ko_79 hs, gi_79 hs, pi_79 hs, al_80 hs, ai_80 hs, ui_80 hs, al_81 hs, ai_81 hs, ui_81 hs, al_82 hs, ai_82 hs, ui_82 hs, al_83 hs, ai_83 hs, ui_83 hs, al_84 hs, ai_84 hs, ui_84 hs, al_85 hs, ai_85 hs, ui_85 hs] <;> rfl)); try dsimp only) | ((with_reducible refine Eq.trans (if_pos ?_) ?_); (focus (simp (disch := first | assumption | decide | omega) only [k1, a4, ib0, ib1, not_true_eq_false, not_false_eq_true, lit, lt64, ofI1, some_bind, if_ib', zB_ib, zBn0, zBn1, zBn, dN_n, nI_add, nI_mul, nI_md, nI_sub, nI_div, md, le_pred, lt_T, lt_F, le_T, le_F, eq_T, eq_F, ng_le, ng_lt, lt_ng, le_ng, eq_ng, max_n, min_n, and_true, true_and, and_false, false_and, and_self, if_true, if_false, ite_self, ↓reduceIte, l_within, l_isC, l_isS, bit_n, c_isJ hs, c_er hs, gr_0_0 hs, gr_0_1 hs, gr_0_2 hs, gr_0_3 hs, gr_0_4 hs, gr_0_5 hs, gr_0_6 hs, gr_0_7 hs, gr_0_8 hs, gr_0_9 hs, gr_1_3 hs, gr_1_4 hs, gr_1_5 hs, gr_1_6 hs, gr_1_7 hs, gr_1_8 hs, gr_1_9 hs, gr_1_10 hs, gr_1_11 hs, gr_1_12 hs, gr_6_3 hs, gr_6_4 hs, gr_6_5 hs, gr_6_6 hs, gr_6_7 hs, gr_6_8 hs, gr_6_9 hs, gr_6_10 hs, gr_6_11 hs, gr_16_2 hs, gr_16_3 hs, gr_16_4 hs, gr_16_5 hs, gr_16_6 hs, gr_16_7 hs, gr_23_0 hs, gr_25_0 hs, gr_27_0 hs, gr_29_0 hs, gr_32_3 hs, gr_32_4 hs, gr_32_5 hs, gr_32_6 hs, gr_32_7 hs, gr_32_8 hs, gr_32_9 hs, gr_32_10 hs, gr_32_11 hs, gr_32_12 hs, gr_37_3 hs, gr_37_4 hs, gr_37_5 hs, gr_37_6 hs, gr_37_7 hs, gr_37_8 hs, gr_37_9 hs, gr_37_10 hs, gr_37_11 hs, gr_47_2 hs, gr_47_3 hs, gr_47_4 hs, gr_47_5 hs, gr_47_6 hs, gr_47_7 hs, gr_54_0 hs, gr_56_0 hs, gr_58_0 hs, gr_60_0 hs, gr_63_3 hs, gr_63_4 hs, gr_63_5 hs, gr_63_6 hs, gr_63_7 hs, gr_63_8 hs, gr_63_9 hs, gr_63_10 hs, gr_63_11 hs, gr_73_0 hs, gr_73_1 hs, gr_73_2 hs, gr_75_0 hs, gr_79_0 hs, ko_0 hs, gi_0 hs, pi_0 hs, ko_1 hs, gi_1 hs, pi_1 hs, al_2 hs, ai_2 hs, ui_2 hs, al_3 hs, ai_3 hs, ui_3 hs, al_4 hs, ai_4 hs, ui_4 hs, ko_6 hs, gi_6 hs, pi_6 hs, al_7 hs, ai_7 hs, ui_7 hs, al_8 hs, ai_8 hs, ui_8 hs, al_9 hs, ai_9 hs, ui_9 hs, al_10 hs, ai_10 hs, ui_10 hs, al_11 hs, ai_11 hs, ui_11 hs, al_12 hs, ai_12 hs, ui_12 hs, al_13 hs, ai_13 hs, ui_13 hs, al_14 hs, ai_14 hs, ui_14 hs, al_15 hs, ai_15 hs, ui_15 hs, ko_16 hs, gi_16 hs, pi_16 hs, al_17 hs, ai_17 hs, ui_17 hs, al_18 hs, ai_18 hs, ui_18 hs, al_19 hs, ai_19 hs, ui_19 hs, al_20 hs, ai_20 hs, ui_20 hs, al_21 hs, ai_21 hs, ui_21 hs, al_22 hs, ai_22 hs, ui_22 hs, ko_23 hs, gi_23 hs, pi_23 hs, al_24 hs, ai_24 hs, ui_24 hs, ko_25 hs, gi_25 hs, pi_25 hs, al_26 hs, ai_26 hs, ui_26 hs, ko_27 hs, gi_27 hs, pi_27 hs, al_28 hs, ai_28 hs, ui_28 hs, ko_29 hs, gi_29 hs, pi_29 hs, al_30 hs, ai_30 hs, ui_30 hs, ko_31 hs, gi_31 hs, pi_31 hs, ko_32 hs, gi_32 hs, pi_32 hs, al_33 hs, ai_33 hs, ui_33 hs, al_34 hs, ai_34 hs, ui_34 hs, al_35 hs, ai_35 hs, ui_35 hs, ko_37 hs, gi_37 hs, pi_37 hs, al_38 hs, ai_38 hs, ui_38 hs, al_39 hs, ai_39 hs, ui_39 hs, al_40 hs, ai_40 hs, ui_40 hs, al_41 hs, ai_41 hs, ui_41 hs, al_42 hs, ai_42 hs, ui_42 hs, al_43 hs, ai_43 hs, ui_43 hs, al_44 hs, ai_44 hs, ui_44 hs, al_45 hs, ai_45 hs, ui_45 hs, al_46 hs, ai_46 hs, ui_46 hs, ko_47 hs, gi_47 hs, pi_47 hs, al_48 hs, ai_48 hs, ui_48 hs, al_49 hs, ai_49 hs, ui_49 hs, al_50 hs, ai_50 hs, ui_50 hs, al_51 hs, ai_51 hs, ui_51 hs, al_52 hs, ai_52 hs, ui_52 hs, al_53 hs, ai_53 hs, ui_53 hs, ko_54 hs, gi_54 hs, pi_54 hs, al_55 hs, ai_55 hs, ui_55 hs, ko_56 hs, gi_56 hs, pi_56 hs, al_57 hs, ai_57 hs, ui_57 hs, ko_58 hs, gi_58 hs, pi_58 hs, al_59 hs, ai_59 hs, ui_59 hs, ko_60 hs, gi_60 hs, pi_60 hs, al_61 hs, ai_61 hs, ui_61 hs, ko_62 hs, gi_62 hs, pi_62 hs, ko_63 hs, gi_63 hs, pi_63 hs, al_64 hs, ai_64 hs, ui_64 hs, al_65 hs, ai_65 hs, ui_65 hs, al_66 hs, ai_66 hs, ui_66 hs, al_67 hs, ai_67 hs, ui_67 hs, al_68 hs, ai_68 hs, ui_68 hs, al_69 hs, ai_69 hs, ui_69 hs, al_70 hs, ai_70 hs, ui_70 hs, al_71 hs, ai_71 hs, ui_71 hs, al_72 hs, ai_72 hs, ui_72 hs, ko_73 hs, gi_73 hs, pi_73 hs, al_74 hs, ai_74 hs, ui_74 hs, ko_75 hs, gi_75 hs, pi_75 hs, al_76 hs, ai_76 hs, ui_76 hs, al_77 hs, ai_77 hs, ui_77 hs, al_78 hs, ai_78 hs, ui_78 hs, ko_79 hs, gi_79 hs, pi_79 hs, al_80 hs, ai_80 hs, ui_80 hs, al_81 hs, ai_81 hs, ui_81 hs, al_82 hs, ai_82 hs, ui_82 hs, al_83 hs, ai_83 hs, ui_83 hs, al_84 hs, ai_84 hs, ui_84 hs, al_85 hs, ai_85 hs, ui_85 hs]; done)); try dsimp only) | ((with_reducible refine Eq.trans (if_neg ?_) ?_); (focus (simp (disch := first | assumption | decide | omega) only [k1, a4, ib0, ib1, not_true_eq_false, not_false_eq_true, lit, lt64, ofI1, some_bind, if_ib', zB_ib, zBn0, zBn1, zBn, dN_n, nI_add, nI_mul, nI_md, nI_sub, nI_div, md, le_pred, lt_T, lt_F, le_T, le_F, eq_T, eq_F, ng_le, ng_lt, lt_ng, le_ng, eq_ng, max_n, min_n, and_true, true_and, and_false, false_and, and_self, if_true, if_false, ite_self, ↓reduceIte, l_within, l_isC, l_isS, bit_n, c_isJ hs, c_er hs, gr_0_0 hs, gr_0_1 hs, gr_0_2 hs, gr_0_3 hs, gr_0_4 hs, gr_0_5 hs, gr_0_6 hs, gr_0_7 hs, gr_0_8 hs, gr_0_9 hs, gr_1_3 hs, gr_1_4 hs, gr_1_5 hs, gr_1_6 hs, gr_1_7 hs, gr_1_8 hs, gr_1_9 hs, gr_1_10 hs, gr_1_11 hs, gr_1_12 hs, gr_6_3 hs, gr_6_4 hs, gr_6_5 hs, gr_6_6 hs, gr_6_7 hs, gr_6_8 hs, gr_6_9 hs, gr_6_10 hs, gr_6_11 hs, gr_16_2 hs, gr_16_3 hs, gr_16_4 hs, gr_16_5 hs, gr_16_6 hs, gr_16_7 hs, gr_23_0 hs, gr_25_0 hs, gr_27_0 hs, gr_29_0 hs, gr_32_3 hs, gr_32_4 hs, gr_32_5 hs, gr_32_6 hs, gr_32_7 hs, gr_32_8 hs, gr_32_9 hs, gr_32_10 hs, gr_32_11 hs, gr_32_12 hs, gr_37_3 hs, gr_37_4 hs, gr_37_5 hs, gr_37_6 hs, gr_37_7 hs, gr_37_8 hs, gr_37_9 hs, gr_37_10 hs, gr_37_11 hs, gr_47_2 hs, gr_47_3 hs, gr_47_4 hs, gr_47_5 hs, gr_47_6 hs, gr_47_7 hs, gr_54_0 hs, gr_56_0 hs, gr_58_0 hs, gr_60_0 hs, gr_63_3 hs, gr_63_4 hs, gr_63_5 hs, gr_63_6 hs, gr_63_7 hs, gr_63_8 hs, gr_63_9 hs, gr_63_10 hs, gr_63_11 hs, gr_73_0 hs, gr_73_1 hs, gr_73_2 hs, gr_75_0 hs, gr_79_0 hs, ko_0 hs, gi_0 hs, pi_0 hs, ko_1 hs, gi_1 hs, pi_1 hs, al_2 hs, ai_2 hs, ui_2 hs, al_3 hs, ai_3 hs, ui_3 hs, al_4 hs, ai_4 hs, ui_4 hs, ko_6 hs, gi_6 hs, pi_6 hs, al_7 hs, ai_7 hs, ui_7 hs, al_8 hs, ai_8 hs, ui_8 hs, al_9 hs, ai_9 hs, ui_9 hs, al_10 hs, ai_10 hs, ui_10 hs, al_11 hs, ai_11 hs, ui_11 hs, al_12 hs, ai_12 hs, ui_12 hs, al_13 hs, ai_13 hs, ui_13 hs, al_14 hs, ai_14 hs, ui_14 hs, al_15 hs, ai_15 hs, ui_15 hs, ko_16 hs, gi_16 hs, pi_16 hs, al_17 hs, ai_17 hs, ui_17 hs, al_18 hs, ai_18 hs, ui_18 hs, al_19 hs, ai_19 hs, ui_19 hs, al_20 hs, ai_20 hs, ui_20 hs, al_21 hs, ai_21 hs, ui_21 hs, al_22 hs, ai_22 hs, ui_22 hs, ko_23 hs, gi_23 hs, pi_23 hs, al_24 hs, ai_24 hs, ui_24 hs, ko_25 hs, gi_25 hs, pi_25 hs, al_26 hs, ai_26 hs, ui_26 hs, ko_27 hs, gi_27 hs, pi_27 hs, al_28 hs, ai_28 hs, ui_28 hs, ko_29 hs, gi_29 hs, pi_29 hs, al_30 hs, ai_30 hs, ui_30 hs, ko_31 hs, gi_31 hs, pi_31 hs, ko_32 hs, gi_32 hs, pi_32 hs, al_33 hs, ai_33 hs, ui_33 hs, al_34 hs, ai_34 hs, ui_34 hs, al_35 hs, ai_35 hs, ui_35 hs, ko_37 hs, gi_37 hs, pi_37 hs, al_38 hs, ai_38 hs, ui_38 hs, al_39 hs, ai_39 hs, ui_39 hs, al_40 hs, ai_40 hs, ui_40 hs, al_41 hs, ai_41 hs, ui_41 hs, al_42 hs, ai_42 hs, ui_42 hs, al_43 hs, ai_43 hs, ui_43 hs, al_44 hs, ai_44 hs, ui_44 hs, al_45 hs, ai_45 hs, ui_45 hs, al_46 hs, ai_46 hs, ui_46 hs, ko_47 hs, gi_47 hs, pi_47 hs, al_48 hs, ai_48 hs, ui_48 hs, al_49 hs, ai_49 hs, ui_49 hs, al_50 hs, ai_50 hs, ui_50 hs, al_51 hs, ai_51 hs, ui_51 hs, al_52 hs, ai_52 hs, ui_52 hs, al_53 hs, ai_53 hs, ui_53 hs, ko_54 hs, gi_54 hs, pi_54 hs, al_55 hs, ai_55 hs, ui_55 hs, ko_56 hs, gi_56 hs, pi_56 hs, al_57 hs, ai_57 hs, ui_57 hs, ko_58 hs, gi_58 hs, pi_58 hs, al_59 hs, ai_59 hs, ui_59 hs, ko_60 hs, gi_60 hs, pi_60 hs, al_61 hs, ai_61 hs, ui_61 hs, ko_62 hs, gi_62 hs, pi_62 hs, ko_63 hs, gi_63 hs, pi_63 hs, al_64 hs, ai_64 hs, ui_64 hs, al_65 hs, ai_65 hs, ui_65 hs, al_66 hs, ai_66 hs, ui_66 hs, al_67 hs, ai_67 hs, ui_67 hs, al_68 hs, ai_68 hs, ui_68 hs, al_69 hs, ai_69 hs, ui_69 hs, al_70 hs, ai_70 hs, ui_70 hs, al_71 hs, ai_71 hs, ui_71 hs, al_72 hs, ai_72 hs, ui_72 hs, ko_73 hs, gi_73 hs, pi_73 hs, al_74 hs, ai_74 hs, ui_74 hs, ko_75 hs, gi_75 hs, pi_75 hs, al_76 hs, ai_76 hs, ui_76 hs, al_77 hs, ai_77 hs, ui_77 hs, al_78 hs, ai_78 hs, ui_78 hs, ko_79 hs, gi_79 hs, pi_79 hs, al_80 hs, ai_80 hs, ui_80 hs, al_81 hs, ai_81 hs, ui_81 hs, al_82 hs, ai_82 hs, ui_82 hs, al_83 hs, ai_83 hs, ui_83 hs, al_84 hs, ai_84 hs, ui_84 hs, al_85 hs, ai_85 hs, ui_85 hs]; done)); try dsimp only) | (with_reducible refine Eq.trans dN24 ?_) | (with_reducible refine Eq.trans dN100 ?_) | ((with_reducible refine Eq.trans (dN_n ?_ ?_) ?_); omega; omega) | ((first | unfold D_X8_startSpill); try dsimp only))
  try simp (disch := first | assumption | decide | omega) only [k1, a4, ib0, ib1, not_true_eq_false, not_false_eq_true, lit, lt64, ofI1, some_bind, if_ib', zB_ib, zBn0, zBn1, zBn, dN_n, nI_add, nI_mul, nI_md, nI_sub, nI_div, md, le_pred, lt_T, lt_F, le_T, le_F, eq_T, eq_F, ng_le, ng_lt, lt_ng, le_ng, eq_ng, max_n, min_n, and_true, true_and, and_false, false_and, and_self, if_true, if_false, ite_self, ↓reduceIte, l_within, l_isC, l_isS, bit_n, c_isJ hs, c_er hs, gr_0_0 hs, gr_0_1 hs, gr_0_2 hs, gr_0_3 hs, gr_0_4 hs, gr_0_5 hs, gr_0_6 hs, gr_0_7 hs, gr_0_8 hs, gr_0_9 hs, gr_1_3 hs, gr_1_4 hs, gr_1_5 hs, gr_1_6 hs, gr_1_7 hs, gr_1_8 hs, gr_1_9 hs, gr_1_10 hs, gr_1_11 hs, gr_1_12 hs, gr_6_3 hs, gr_6_4 hs, gr_6_5 hs, gr_6_6 hs, gr_6_7 hs, gr_6_8 hs, gr_6_9 hs, gr_6_10 hs, gr_6_11 hs, gr_16_2 hs, gr_16_3 hs, gr_16_4 hs, gr_16_5 hs, gr_16_6 hs, gr_16_7 hs, gr_23_0 hs, gr_25_0 hs, gr_27_0 hs, gr_29_0 hs, gr_32_3 hs, gr_32_4 hs, gr_32_5 hs, gr_32_6 hs, gr_32_7 hs, gr_32_8 hs, gr_32_9 hs, gr_32_10 hs, gr_32_11 hs, gr_32_12 hs, gr_37_3 hs, gr_37_4 hs, gr_37_5 hs, gr_37_6 hs, gr_37_7 hs, gr_37_8 hs, gr_37_9 hs, gr_37_10 hs, gr_37_11 hs, gr_47_2 hs, gr_47_3 hs, gr_47_4 hs, gr_47_5 hs, gr_47_6 hs, gr_47_7 hs, gr_54_0 hs, gr_56_0 hs, gr_58_0 hs, gr_60_0 hs, gr_63_3 hs, gr_63_4 hs, gr_63_5 hs, gr_63_6 hs, gr_63_7 hs, gr_63_8 hs, gr_63_9 hs, gr_63_10 hs, gr_63_11 hs, gr_73_0 hs, gr_73_1 hs, gr_73_2 hs, gr_75_0 hs, gr_79_0 hs, ko_0 hs, gi_0 hs, pi_0 hs, ko_1 hs, gi_1 hs, pi_1 hs, al_2 hs, ai_2 hs, ui_2 hs, al_3 hs, ai_3 hs, ui_3 hs, al_4 hs, ai_4 hs, ui_4 hs, ko_6 hs, gi_6 hs, pi_6 hs, al_7 hs, ai_7 hs, ui_7 hs, al_8 hs, ai_8 hs, ui_8 hs, al_9 hs, ai_9 hs, ui_9 hs, al_10 hs, ai_10 hs, ui_10 hs, al_11 hs, ai_11 hs, ui_11 hs, al_12 hs, ai_12 hs, ui_12 hs, al_13 hs, ai_13 hs, ui_13 hs, al_14 hs, ai_14 hs, ui_14 hs, al_15 hs, ai_15 hs, ui_15 hs, ko_16 hs, gi_16 hs, pi_16 hs, al_17 hs, ai_17 hs, ui_17 hs, al_18 hs, ai_18 hs, ui_18 hs, al_19 hs, ai_19 hs, ui_19 hs, al_20 hs, ai_20 hs, ui_20 hs, al_21 hs, ai_21 hs, ui_21 hs, al_22 hs, ai_22 hs, ui_22 hs, ko_23 hs, gi_23 hs, pi_23 hs, al_24 hs, ai_24 hs, ui_24 hs, ko_25 hs, gi_25 hs, pi_25 hs, al_26 hs, ai_26 hs, ui_26 hs, ko_27 hs, gi_27 hs, pi_27 hs, al_28 hs, ai_28 hs, ui_28 hs, ko_29 hs, gi_29 hs, pi_29 hs, al_30 hs, ai_30 hs, ui_30 hs, ko_31 hs, gi_31 hs, pi_31 hs, ko_32 hs, gi_32 hs, pi_32 hs, al_33 hs, ai_33 hs, ui_33 hs, al_34 hs, ai_34 hs, ui_34 hs, al_35 hs, ai_35 hs, ui_35 hs, ko_37 hs, gi_37 hs, pi_37 hs, al_38 hs, ai_38 hs, ui_38 hs, al_39 hs, ai_39 hs, ui_39 hs, al_40 hs, ai_40 hs, ui_40 hs, al_41 hs, ai_41 hs, ui_41 hs, al_42 hs, ai_42 hs, ui_42 hs, al_43 hs, ai_43 hs, ui_43 hs, al_44 hs, ai_44 hs, ui_44 hs, al_45 hs, ai_45 hs, ui_45 hs, al_46 hs, ai_46 hs, ui_46 hs, ko_47 hs, gi_47 hs, pi_47 hs, al_48 hs, ai_48 hs, ui_48 hs, al_49 hs, ai_49 hs, ui_49 hs, al_50 hs, ai_50 hs, ui_50 hs, al_51 hs, ai_51 hs, ui_51 hs, al_52 hs, ai_52 hs, ui_52 hs, al_53 hs, ai_53 hs, ui_53 hs, ko_54 hs, gi_54 hs, pi_54 hs, al_55 hs, ai_55 hs, ui_55 hs, ko_56 hs, gi_56 hs, pi_56 hs, al_57 hs, ai_57 hs, ui_57 hs, ko_58 hs, gi_58 hs, pi_58 hs, al_59 hs, ai_59 hs, ui_59 hs, ko_60 hs, gi_60 hs, pi_60 hs, al_61 hs, ai_61 hs, ui_61 hs, ko_62 hs, gi_62 hs, pi_62 hs, ko_63 hs, gi_63 hs, pi_63 hs, al_64 hs, ai_64 hs, ui_64 hs, al_65 hs, ai_65 hs, ui_65 hs, al_66 hs, ai_66 hs, ui_66 hs, al_67 hs, ai_67 hs, ui_67 hs, al_68 hs, ai_68 hs, ui_68 hs, al_69 hs, ai_69 hs, ui_69 hs, al_70 hs, ai_70 hs, ui_70 hs, al_71 hs, ai_71 hs, ui_71 hs, al_72 hs, ai_72 hs, ui_72 hs, ko_73 hs, gi_73 hs, pi_73 hs, al_74 hs, ai_74 hs, ui_74 hs, ko_75 hs, gi_75 hs, pi_75 hs, al_76 hs, ai_76 hs, ui_76 hs, al_77 hs, ai_77 hs, ui_77 hs, al_78 hs, ai_78 hs, ui_78 hs, ko_79 hs, gi_79 hs, pi_79 hs, al_80 hs, ai_80 hs, ui_80 hs, al_81 hs, ai_81 hs, ui_81 hs, al_82 hs, ai_82 hs, ui_82 hs, al_83 hs, ai_83 hs, ui_83 hs, al_84 hs, ai_84 hs, ui_84 hs, al_85 hs, ai_85 hs, ui_85 hs]
end P28
