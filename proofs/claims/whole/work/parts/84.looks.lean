/-! PUTS ahead of a LOOK; what LOOKS say -/
noncomputable def cd (p : Prop) : Decidable p := Classical.propDecidable p
/-- in this HOLE, in another: a PUT of the COLOUR among the first n -/
def PUT (Z : Z1) (c j n : Nat) : Prop := ∃ p, p < n ∧ Z (6916 + 4 * p + 1) = c ∧ Z (6916 + 4 * p) = j
def OTH (Z : Z1) (c j n : Nat) : Prop := ∃ p, p < n ∧ Z (6916 + 4 * p + 1) = c ∧ Z (6916 + 4 * p) ≠ j
theorem ib_or {c : Prop} {dc : Decidable c} {b : Nat} (hb : b ≤ 1) (d : Prop) (h : ¬ (b = 1) → (c ↔ d)) (h1 : b = 1 → c) : ib c dc = ib (b = 1 ∨ d) (cd _) := by
  by_cases q : b = 1
  · exact ib_iff ⟨fun _ => Or.inl q, fun _ => h1 q⟩
  · exact ib_iff ⟨fun x => Or.inr ((h q).mp x), fun x => (h q).mpr (x.resolve_left q)⟩
theorem holesZ_bit (Z : Z1) (c j : Nat) : ∀ n, (holesZ Z c n).testBit j = true ↔ PUT Z c j n := by
  intro n
  induction n with
  | zero => exact ⟨fun q => absurd q (by rw [holesZ, Nat.zero_testBit]; decide), fun ⟨p, hp, _⟩ => absurd hp (Nat.not_lt_zero _)⟩
  | succ n ih =>
    have e : 6917 + 4 * n = 6916 + 4 * n + 1 := by omega
    unfold holesZ
    by_cases q : Z (6917 + 4 * n) = c
    · rw [if_pos q, Nat.testBit_or, Bool.or_eq_true, ih, Nat.testBit_two_pow]
      constructor
      · rintro (⟨p, hp, r⟩ | r)
        · exact ⟨p, by omega, r⟩
        · exact ⟨n, by omega, by rw [← e]; exact q, of_decide_eq_true r⟩
      · rintro ⟨p, hp, r1, r2⟩
        by_cases hpn : p = n
        · right; rw [hpn] at r2; exact decide_eq_true r2
        · left; exact ⟨p, by omega, r1, r2⟩
    · rw [if_neg q, ih]
      constructor
      · rintro ⟨p, hp, r⟩
        exact ⟨p, by omega, r⟩
      · rintro ⟨p, hp, r1, r2⟩
        by_cases hpn : p = n
        · rw [hpn, ← e] at r1; exact absurd r1 q
        · exact ⟨p, by omega, r1, r2⟩
theorem bit_div (x j : Nat) : x / 2 ^ j % 2 = 1 ↔ x.testBit j = true := by
  rw [Nat.testBit_eq_decide_div_mod_eq]
  exact ⟨fun q => decide_eq_true q, fun q => of_decide_eq_true q⟩
theorem holesZ_lt {Z : Z1} (hB : B_all Z) (c : Nat) : ∀ n, n ≤ Z 3 → holesZ Z c n < 2 ^ 16 := by
  intro n
  induction n with
  | zero => intro _; exact (by decide : 0 < 2 ^ 16)
  | succ n ih =>
    intro hn
    unfold holesZ
    have h1 := ih (by omega)
    split
    · refine Nat.or_lt_two_pow h1 (Nat.pow_lt_pow_right (by decide) ?_)
      have := (hB.2.2.2.1.1 n (by omega)).1
      have := hB.1.2.1
      omega
    · exact h1
/-- alone: the one HOLE -/
theorem holesZ_one {Z : Z1} {c j n : Nat} (hp : PUT Z c j n) : holesZ Z c n = 2 ^ j ↔ ¬ OTH Z c j n := by
  constructor
  · rintro e ⟨p, hp, r1, r2⟩
    have := (holesZ_bit Z c (Z (6916 + 4 * p)) n).mpr ⟨p, hp, r1, rfl⟩
    rw [e, Nat.testBit_two_pow] at this
    exact r2 (of_decide_eq_true this).symm
  · intro ho
    apply Nat.eq_of_testBit_eq
    intro i
    rw [Nat.testBit_two_pow]
    by_cases hi : j = i
    · rw [decide_eq_true hi, ← hi]
      exact (holesZ_bit Z c j n).mpr hp
    · rw [decide_eq_false hi]
      rw [Bool.eq_false_iff]
      intro q
      obtain ⟨p, hp, r1, r2⟩ := (holesZ_bit Z c i n).mp q
      exact ho ⟨p, hp, r1, fun e => hi (e.symm.trans r2)⟩
theorem shl_n {n : Nat} (hn : n < 31) : nI 1 <<< (nI n &&& nI 31) = nI (2 ^ n) := (by decide : ∀ n, n < 31 → nI 1 <<< (nI n &&& nI 31) = nI (2 ^ n)) n hn
section LOOKS
variable {h : mh_H} {TX : Nat → Nat → (Nat → Nat) → Z1 → Prop} {G : F2} {C : C2} {Z : Z1} {M : Nat}
theorem m_wp_l (hs : Sh h) {N : Nat} (F0 : F2) (hB : B_all Z) {l j o : Nat} (hl : l < Z 4) (h60 : l < 60) (h40 : Z (7076 + 8 * l + 6) ≤ 40) (h4 : Z (7076 + 8 * l + 1) < 4) (hz : Z (7076 + 8 * l + 6) ≤ Z 3) (hj : j < 16) (ho : o ≤ 1) : ∀ (m F k s : Nat), k + m = Z (7076 + 8 * l + 6) → m < F → s ≤ 1 → D_X12_wasPut_6 N F (mh_w h (gz F0 Z)) 86 (nI l) (nI j) (nI o) (nI s) (nI k) = some (ib (s = 1 ∨ ∃ p, k ≤ p ∧ p < k + m ∧ Z (6916 + 4 * p + 1) = Z (7076 + 8 * l + 1) ∧ (if o = 0 then Z (6916 + 4 * p) = j else Z (6916 + 4 * p) ≠ j)) (cd _), mh_w h (gz F0 Z)) := by
  intro m
  induction m with
  | zero =>
    intro F k s hk hF hsb; obtain ⟨F, rfl⟩ : ∃ F1, F = F1 + 1 := ⟨F - 1, by omega⟩
    simp (disch := first | assumption | decide | omega) only [D_X12_wasPut_6, m_lk hs, lit, lt64, ofI1, some_bind, if_ib', zB_ib, zBn0, zBn1, zBn, dN_n, nI_add, nI_mul, nI_md, nI_sub, nI_div, md, le_pred, lt_T, lt_F, le_T, le_F, eq_T, eq_F, ng_le, ng_lt, lt_ng, le_ng, eq_ng, max_n, min_n, and_true, true_and, and_false, false_and, and_self, if_true, if_false, ite_self, ↓reduceIte, m_in32, m_isC, m_isS, m_isJ hs, m_jnt, m_er hs, gr_86_0 hs, gr_86_1 hs, gr_86_2 hs, gr_86_4 hs, gr_86_5 hs, gr_86_6 hs, gr_86_7 hs, gr_86_8 hs, gr_86_15 hs, gr_86_16 hs, gr_86_17 hs, gr_86_18 hs, gr_86_19 hs, gr_86_20 hs, gr_86_21 hs, gr_86_27 hs, gr_86_28 hs, gr_86_29 hs, ko_86 hs, gi_86 hs, pi_86 hs, al_87 hs, ai_87 hs, ui_87 hs, al_88 hs, ai_88 hs, ui_88 hs, al_89 hs, ai_89 hs, ui_89 hs, al_90 hs, ai_90 hs, ui_90 hs, al_91 hs, ai_91 hs, ui_91 hs, al_92 hs, ai_92 hs, ui_92 hs, al_93 hs, ai_93 hs, ui_93 hs, al_94 hs, ai_94 hs, ui_94 hs, al_95 hs, ai_95 hs, ui_95 hs, al_96 hs, ai_96 hs, ui_96 hs, al_97 hs, ai_97 hs, ui_97 hs, al_98 hs, ai_98 hs, ui_98 hs, al_99 hs, ai_99 hs, ui_99 hs, al_100 hs, ai_100 hs, ui_100 hs, al_101 hs, ai_101 hs, ui_101 hs, al_102 hs, ai_102 hs, ui_102 hs, al_103 hs, ai_103 hs, ui_103 hs, al_104 hs, ai_104 hs, ui_104 hs]
    by_cases q : s = 1
    · rw [ibT (Or.inl q), q]
    · rw [ibF (by rintro (q2 | ⟨p, p1, p2, -⟩); exact q q2; omega), show s = 0 by omega]
  | succ m ih =>
    intro F k s hk hF hsb
    obtain ⟨F, rfl⟩ : ∃ F1, F = F1 + 1 := ⟨F - 1, by omega⟩
    have hb := hB.2.2.2.1.1 k (by omega)
    have hb1 := hB.1.2.1
    have e17 : Z (6917 + 4 * k) = Z (6916 + 4 * k + 1) := by rw [show 6917 + 4 * k = 6916 + 4 * k + 1 by omega]
    rw [e17] at hb
    obtain ⟨b1, -, b3, -⟩ := hb
    by_cases q : s = 1
    · simp (disch := first | assumption | decide | omega) only [D_X12_wasPut_76, D_X12_wasPut_71, D_X12_wasPut_75, D_X12_wasPut_67, D_X12_wasPut, D_X12_wasPut_6, m_lk hs, ih, lit, lt64, ofI1, some_bind, if_ib', zB_ib, zBn0, zBn1, zBn, dN_n, nI_add, nI_mul, nI_md, nI_sub, nI_div, md, le_pred, lt_T, lt_F, le_T, le_F, eq_T, eq_F, ng_le, ng_lt, lt_ng, le_ng, eq_ng, max_n, min_n, and_true, true_and, and_false, false_and, and_self, if_true, if_false, ite_self, ↓reduceIte, m_in32, m_isC, m_isS, m_isJ hs, m_jnt, m_er hs, gr_86_0 hs, gr_86_1 hs, gr_86_2 hs, gr_86_4 hs, gr_86_5 hs, gr_86_6 hs, gr_86_7 hs, gr_86_8 hs, gr_86_15 hs, gr_86_16 hs, gr_86_17 hs, gr_86_18 hs, gr_86_19 hs, gr_86_20 hs, gr_86_21 hs, gr_86_27 hs, gr_86_28 hs, gr_86_29 hs, ko_86 hs, gi_86 hs, pi_86 hs, al_87 hs, ai_87 hs, ui_87 hs, al_88 hs, ai_88 hs, ui_88 hs, al_89 hs, ai_89 hs, ui_89 hs, al_90 hs, ai_90 hs, ui_90 hs, al_91 hs, ai_91 hs, ui_91 hs, al_92 hs, ai_92 hs, ui_92 hs, al_93 hs, ai_93 hs, ui_93 hs, al_94 hs, ai_94 hs, ui_94 hs, al_95 hs, ai_95 hs, ui_95 hs, al_96 hs, ai_96 hs, ui_96 hs, al_97 hs, ai_97 hs, ui_97 hs, al_98 hs, ai_98 hs, ui_98 hs, al_99 hs, ai_99 hs, ui_99 hs, al_100 hs, ai_100 hs, ui_100 hs, al_101 hs, ai_101 hs, ui_101 hs, al_102 hs, ai_102 hs, ui_102 hs, al_103 hs, ai_103 hs, ui_103 hs, al_104 hs, ai_104 hs, ui_104 hs]
      exact congrArg (fun x => some (x, _)) (ib_iff ⟨fun _ => Or.inl q, fun _ => Or.inl rfl⟩)
    · by_cases q1 : Z (6916 + 4 * k + 1) = Z (7076 + 8 * l + 1)
      · by_cases q2 : Z (6916 + 4 * k) = j
        · rcases (show o = 0 ∨ o = 1 by omega) with rfl | rfl
          · simp (disch := first | assumption | decide | omega) only [D_X12_wasPut_76, D_X12_wasPut_71, D_X12_wasPut_75, D_X12_wasPut_67, D_X12_wasPut, D_X12_wasPut_6, m_lk hs, ih, lit, lt64, ofI1, some_bind, if_ib', zB_ib, zBn0, zBn1, zBn, dN_n, nI_add, nI_mul, nI_md, nI_sub, nI_div, md, le_pred, lt_T, lt_F, le_T, le_F, eq_T, eq_F, ng_le, ng_lt, lt_ng, le_ng, eq_ng, max_n, min_n, and_true, true_and, and_false, false_and, and_self, if_true, if_false, ite_self, ↓reduceIte, m_in32, m_isC, m_isS, m_isJ hs, m_jnt, m_er hs, gr_86_0 hs, gr_86_1 hs, gr_86_2 hs, gr_86_4 hs, gr_86_5 hs, gr_86_6 hs, gr_86_7 hs, gr_86_8 hs, gr_86_15 hs, gr_86_16 hs, gr_86_17 hs, gr_86_18 hs, gr_86_19 hs, gr_86_20 hs, gr_86_21 hs, gr_86_27 hs, gr_86_28 hs, gr_86_29 hs, ko_86 hs, gi_86 hs, pi_86 hs, al_87 hs, ai_87 hs, ui_87 hs, al_88 hs, ai_88 hs, ui_88 hs, al_89 hs, ai_89 hs, ui_89 hs, al_90 hs, ai_90 hs, ui_90 hs, al_91 hs, ai_91 hs, ui_91 hs, al_92 hs, ai_92 hs, ui_92 hs, al_93 hs, ai_93 hs, ui_93 hs, al_94 hs, ai_94 hs, ui_94 hs, al_95 hs, ai_95 hs, ui_95 hs, al_96 hs, ai_96 hs, ui_96 hs, al_97 hs, ai_97 hs, ui_97 hs, al_98 hs, ai_98 hs, ui_98 hs, al_99 hs, ai_99 hs, ui_99 hs, al_100 hs, ai_100 hs, ui_100 hs, al_101 hs, ai_101 hs, ui_101 hs, al_102 hs, ai_102 hs, ui_102 hs, al_103 hs, ai_103 hs, ui_103 hs, al_104 hs, ai_104 hs, ui_104 hs]
            exact congrArg (fun x => some (x, _)) (ib_iff ⟨fun _ => Or.inr ⟨k, by omega, by omega, q1, q2⟩, fun _ => Or.inl rfl⟩)
          · simp (disch := first | assumption | decide | omega) only [D_X12_wasPut_76, D_X12_wasPut_71, D_X12_wasPut_75, D_X12_wasPut_67, D_X12_wasPut, D_X12_wasPut_6, m_lk hs, ih, lit, lt64, ofI1, some_bind, if_ib', zB_ib, zBn0, zBn1, zBn, dN_n, nI_add, nI_mul, nI_md, nI_sub, nI_div, md, le_pred, lt_T, lt_F, le_T, le_F, eq_T, eq_F, ng_le, ng_lt, lt_ng, le_ng, eq_ng, max_n, min_n, and_true, true_and, and_false, false_and, and_self, if_true, if_false, ite_self, ↓reduceIte, m_in32, m_isC, m_isS, m_isJ hs, m_jnt, m_er hs, gr_86_0 hs, gr_86_1 hs, gr_86_2 hs, gr_86_4 hs, gr_86_5 hs, gr_86_6 hs, gr_86_7 hs, gr_86_8 hs, gr_86_15 hs, gr_86_16 hs, gr_86_17 hs, gr_86_18 hs, gr_86_19 hs, gr_86_20 hs, gr_86_21 hs, gr_86_27 hs, gr_86_28 hs, gr_86_29 hs, ko_86 hs, gi_86 hs, pi_86 hs, al_87 hs, ai_87 hs, ui_87 hs, al_88 hs, ai_88 hs, ui_88 hs, al_89 hs, ai_89 hs, ui_89 hs, al_90 hs, ai_90 hs, ui_90 hs, al_91 hs, ai_91 hs, ui_91 hs, al_92 hs, ai_92 hs, ui_92 hs, al_93 hs, ai_93 hs, ui_93 hs, al_94 hs, ai_94 hs, ui_94 hs, al_95 hs, ai_95 hs, ui_95 hs, al_96 hs, ai_96 hs, ui_96 hs, al_97 hs, ai_97 hs, ui_97 hs, al_98 hs, ai_98 hs, ui_98 hs, al_99 hs, ai_99 hs, ui_99 hs, al_100 hs, ai_100 hs, ui_100 hs, al_101 hs, ai_101 hs, ui_101 hs, al_102 hs, ai_102 hs, ui_102 hs, al_103 hs, ai_103 hs, ui_103 hs, al_104 hs, ai_104 hs, ui_104 hs]
            refine congrArg (fun x => some (x, _)) (ib_iff ⟨?_, ?_⟩)
            · rintro (q3 | ⟨p, p1, p2, p3⟩)
              · omega
              · exact Or.inr ⟨p, by omega, by omega, p3⟩
            · rintro (q3 | ⟨p, p1, p2, p3, p4⟩)
              · omega
              · by_cases hp : p = k
                · rw [hp] at p4; exact absurd q2 p4
                · exact Or.inr ⟨p, by omega, by omega, p3, p4⟩
        · rcases (show o = 0 ∨ o = 1 by omega) with rfl | rfl
          · simp (disch := first | assumption | decide | omega) only [D_X12_wasPut_76, D_X12_wasPut_71, D_X12_wasPut_75, D_X12_wasPut_67, D_X12_wasPut, D_X12_wasPut_6, m_lk hs, ih, lit, lt64, ofI1, some_bind, if_ib', zB_ib, zBn0, zBn1, zBn, dN_n, nI_add, nI_mul, nI_md, nI_sub, nI_div, md, le_pred, lt_T, lt_F, le_T, le_F, eq_T, eq_F, ng_le, ng_lt, lt_ng, le_ng, eq_ng, max_n, min_n, and_true, true_and, and_false, false_and, and_self, if_true, if_false, ite_self, ↓reduceIte, m_in32, m_isC, m_isS, m_isJ hs, m_jnt, m_er hs, gr_86_0 hs, gr_86_1 hs, gr_86_2 hs, gr_86_4 hs, gr_86_5 hs, gr_86_6 hs, gr_86_7 hs, gr_86_8 hs, gr_86_15 hs, gr_86_16 hs, gr_86_17 hs, gr_86_18 hs, gr_86_19 hs, gr_86_20 hs, gr_86_21 hs, gr_86_27 hs, gr_86_28 hs, gr_86_29 hs, ko_86 hs, gi_86 hs, pi_86 hs, al_87 hs, ai_87 hs, ui_87 hs, al_88 hs, ai_88 hs, ui_88 hs, al_89 hs, ai_89 hs, ui_89 hs, al_90 hs, ai_90 hs, ui_90 hs, al_91 hs, ai_91 hs, ui_91 hs, al_92 hs, ai_92 hs, ui_92 hs, al_93 hs, ai_93 hs, ui_93 hs, al_94 hs, ai_94 hs, ui_94 hs, al_95 hs, ai_95 hs, ui_95 hs, al_96 hs, ai_96 hs, ui_96 hs, al_97 hs, ai_97 hs, ui_97 hs, al_98 hs, ai_98 hs, ui_98 hs, al_99 hs, ai_99 hs, ui_99 hs, al_100 hs, ai_100 hs, ui_100 hs, al_101 hs, ai_101 hs, ui_101 hs, al_102 hs, ai_102 hs, ui_102 hs, al_103 hs, ai_103 hs, ui_103 hs, al_104 hs, ai_104 hs, ui_104 hs]
            refine congrArg (fun x => some (x, _)) (ib_iff ⟨?_, ?_⟩)
            · rintro (q3 | ⟨p, p1, p2, p3⟩)
              · omega
              · exact Or.inr ⟨p, by omega, by omega, p3⟩
            · rintro (q3 | ⟨p, p1, p2, p3, p4⟩)
              · omega
              · by_cases hp : p = k
                · rw [hp] at p4; exact absurd p4 q2
                · exact Or.inr ⟨p, by omega, by omega, p3, p4⟩
          · simp (disch := first | assumption | decide | omega) only [D_X12_wasPut_76, D_X12_wasPut_71, D_X12_wasPut_75, D_X12_wasPut_67, D_X12_wasPut, D_X12_wasPut_6, m_lk hs, ih, lit, lt64, ofI1, some_bind, if_ib', zB_ib, zBn0, zBn1, zBn, dN_n, nI_add, nI_mul, nI_md, nI_sub, nI_div, md, le_pred, lt_T, lt_F, le_T, le_F, eq_T, eq_F, ng_le, ng_lt, lt_ng, le_ng, eq_ng, max_n, min_n, and_true, true_and, and_false, false_and, and_self, if_true, if_false, ite_self, ↓reduceIte, m_in32, m_isC, m_isS, m_isJ hs, m_jnt, m_er hs, gr_86_0 hs, gr_86_1 hs, gr_86_2 hs, gr_86_4 hs, gr_86_5 hs, gr_86_6 hs, gr_86_7 hs, gr_86_8 hs, gr_86_15 hs, gr_86_16 hs, gr_86_17 hs, gr_86_18 hs, gr_86_19 hs, gr_86_20 hs, gr_86_21 hs, gr_86_27 hs, gr_86_28 hs, gr_86_29 hs, ko_86 hs, gi_86 hs, pi_86 hs, al_87 hs, ai_87 hs, ui_87 hs, al_88 hs, ai_88 hs, ui_88 hs, al_89 hs, ai_89 hs, ui_89 hs, al_90 hs, ai_90 hs, ui_90 hs, al_91 hs, ai_91 hs, ui_91 hs, al_92 hs, ai_92 hs, ui_92 hs, al_93 hs, ai_93 hs, ui_93 hs, al_94 hs, ai_94 hs, ui_94 hs, al_95 hs, ai_95 hs, ui_95 hs, al_96 hs, ai_96 hs, ui_96 hs, al_97 hs, ai_97 hs, ui_97 hs, al_98 hs, ai_98 hs, ui_98 hs, al_99 hs, ai_99 hs, ui_99 hs, al_100 hs, ai_100 hs, ui_100 hs, al_101 hs, ai_101 hs, ui_101 hs, al_102 hs, ai_102 hs, ui_102 hs, al_103 hs, ai_103 hs, ui_103 hs, al_104 hs, ai_104 hs, ui_104 hs]
            exact congrArg (fun x => some (x, _)) (ib_iff ⟨fun _ => Or.inr ⟨k, by omega, by omega, q1, q2⟩, fun _ => Or.inl rfl⟩)
      · simp (disch := first | assumption | decide | omega) only [D_X12_wasPut_76, D_X12_wasPut_71, D_X12_wasPut_75, D_X12_wasPut_67, D_X12_wasPut, D_X12_wasPut_6, m_lk hs, ih, lit, lt64, ofI1, some_bind, if_ib', zB_ib, zBn0, zBn1, zBn, dN_n, nI_add, nI_mul, nI_md, nI_sub, nI_div, md, le_pred, lt_T, lt_F, le_T, le_F, eq_T, eq_F, ng_le, ng_lt, lt_ng, le_ng, eq_ng, max_n, min_n, and_true, true_and, and_false, false_and, and_self, if_true, if_false, ite_self, ↓reduceIte, m_in32, m_isC, m_isS, m_isJ hs, m_jnt, m_er hs, gr_86_0 hs, gr_86_1 hs, gr_86_2 hs, gr_86_4 hs, gr_86_5 hs, gr_86_6 hs, gr_86_7 hs, gr_86_8 hs, gr_86_15 hs, gr_86_16 hs, gr_86_17 hs, gr_86_18 hs, gr_86_19 hs, gr_86_20 hs, gr_86_21 hs, gr_86_27 hs, gr_86_28 hs, gr_86_29 hs, ko_86 hs, gi_86 hs, pi_86 hs, al_87 hs, ai_87 hs, ui_87 hs, al_88 hs, ai_88 hs, ui_88 hs, al_89 hs, ai_89 hs, ui_89 hs, al_90 hs, ai_90 hs, ui_90 hs, al_91 hs, ai_91 hs, ui_91 hs, al_92 hs, ai_92 hs, ui_92 hs, al_93 hs, ai_93 hs, ui_93 hs, al_94 hs, ai_94 hs, ui_94 hs, al_95 hs, ai_95 hs, ui_95 hs, al_96 hs, ai_96 hs, ui_96 hs, al_97 hs, ai_97 hs, ui_97 hs, al_98 hs, ai_98 hs, ui_98 hs, al_99 hs, ai_99 hs, ui_99 hs, al_100 hs, ai_100 hs, ui_100 hs, al_101 hs, ai_101 hs, ui_101 hs, al_102 hs, ai_102 hs, ui_102 hs, al_103 hs, ai_103 hs, ui_103 hs, al_104 hs, ai_104 hs, ui_104 hs]
        refine congrArg (fun x => some (x, _)) (ib_iff ⟨?_, ?_⟩)
        · rintro (q3 | ⟨p, p1, p2, p3⟩)
          · omega
          · exact Or.inr ⟨p, by omega, by omega, p3⟩
        · rintro (q3 | ⟨p, p1, p2, p3, p4⟩)
          · omega
          · by_cases hp : p = k
            · rw [hp] at p3; exact absurd p3 q1
            · exact Or.inr ⟨p, by omega, by omega, p3, p4⟩
/-- what is kept of LOOK l -/
theorem lk_b (hB : B_all Z) {l : Nat} (hl : l < Z 4) : l < 60 ∧ Z (7076 + 8 * l + 0) < 16 ∧ Z (7076 + 8 * l + 1) < 4 ∧ Z (7076 + 8 * l + 2) ≤ 999 ∧ Z (7076 + 8 * l + 3) ≤ 24 ∧ Z (7076 + 8 * l + 4) ≤ 1 ∧ Z (7076 + 8 * l + 5) ≤ 1 ∧ Z (7076 + 8 * l + 6) ≤ Z 3 ∧ Z (7076 + 8 * l + 6) ≤ 40 := by
  obtain ⟨c0, c1, c2, c3, c4, -⟩ := hB.1
  obtain ⟨a1, -, a3, a4, a5, a6, a7, a8, -⟩ := hB.2.2.2.2.1.1 l hl
  rw [show 7076 + 8 * l + 0 = 7076 + 8 * l by omega, show 7076 + 8 * l + 1 = 7077 + 8 * l by omega, show 7076 + 8 * l + 2 = 7078 + 8 * l by omega, show 7076 + 8 * l + 3 = 7079 + 8 * l by omega, show 7076 + 8 * l + 4 = 7080 + 8 * l by omega, show 7076 + 8 * l + 5 = 7081 + 8 * l by omega, show 7076 + 8 * l + 6 = 7082 + 8 * l by omega]
  exact ⟨by omega, by omega, a3, by omega, a5, a6, a7, a8, by omega⟩
theorem m_wp0 (hs : Sh h) {N : Nat} (hN : 10000 ≤ N) (F0 : F2) (hB : B_all Z) {l j : Nat} (hl : l < Z 4) (hj : j < 16) : D_X12_wasPut N (mh_w h (gz F0 Z)) 86 (nI l) (nI j) (nI 0) = some (ib (PUT Z (Z (7076 + 8 * l + 1)) j (Z (7076 + 8 * l + 6))) (cd _), mh_w h (gz F0 Z)) := by
  obtain ⟨b0, -, b1, -, -, -, -, b6, b7⟩ := lk_b hB hl
  unfold D_X12_wasPut
  simp only [lit]
  rw [m_wp_l hs F0 hB hl b0 b7 b1 b6 hj (by decide) (Z (7076 + 8 * l + 6)) N 0 0 (by omega) (by omega) (by decide)]
  refine congrArg (fun x => some (x, _)) (ib_iff ⟨?_, ?_⟩)
  · rintro (q | ⟨p, p1, p2, p3, p4⟩)
    · omega
    · rw [if_pos rfl] at p4; exact ⟨p, by omega, p3, p4⟩
  · rintro ⟨p, p1, p3, p4⟩
    exact Or.inr ⟨p, by omega, by omega, p3, by rw [if_pos rfl]; exact p4⟩
theorem m_wp1 (hs : Sh h) {N : Nat} (hN : 10000 ≤ N) (F0 : F2) (hB : B_all Z) {l j : Nat} (hl : l < Z 4) (hj : j < 16) : D_X12_wasPut N (mh_w h (gz F0 Z)) 86 (nI l) (nI j) (nI 1) = some (ib (OTH Z (Z (7076 + 8 * l + 1)) j (Z (7076 + 8 * l + 6))) (cd _), mh_w h (gz F0 Z)) := by
  obtain ⟨b0, -, b1, -, -, -, -, b6, b7⟩ := lk_b hB hl
  unfold D_X12_wasPut
  simp only [lit]
  rw [m_wp_l hs F0 hB hl b0 b7 b1 b6 hj (by decide) (Z (7076 + 8 * l + 6)) N 0 0 (by omega) (by omega) (by decide)]
  refine congrArg (fun x => some (x, _)) (ib_iff ⟨?_, ?_⟩)
  · rintro (q | ⟨p, p1, p2, p3, p4⟩)
    · omega
    · rw [if_neg (by decide)] at p4; exact ⟨p, by omega, p3, p4⟩
  · rintro ⟨p, p1, p3, p4⟩
    exact Or.inr ⟨p, by omega, by omega, p3, by rw [if_neg (by decide)]; exact p4⟩
theorem w_lh' (hw : R_world TX h G C Z 1 M) {l : Nat} (hl : l < 60) (hz : l < Z 4) : C 18 (l * 8 + 7) = holesZ Z (Z (7076 + 8 * l + 1)) (Z (7076 + 8 * l + 6)) := by
  rw [w_lh hw hl hz, show 7076 + 8 * l + 1 = 7077 + 8 * l by omega, show 7076 + 8 * l + 6 = 7082 + 8 * l by omega]
theorem c_about (hs : Sh h) (N : Nat) (F0 : F2) (hw : R_world TX h G C Z 1 M) {l j s : Nat} (hl : l < Z 4) (hj : j < 16) (hsp : s < 16) : D_X1_isAbout N (mh_w h (cz F0 C)) 16 (nI l) (nI j) (nI s) = some (ib (Z (7076 + 8 * l + 0) = s ∧ PUT Z (Z (7076 + 8 * l + 1)) j (Z (7076 + 8 * l + 6))) (cd _), mh_w h (cz F0 C)) := by
  obtain ⟨b0, bs, b1, -, -, -, -, b6, b7⟩ := lk_b hw.1 hl
  have hlt := holesZ_lt hw.1 (Z (7076 + 8 * l + 1)) _ b6
  have hP := (bit_div (holesZ Z (Z (7076 + 8 * l + 1)) (Z (7076 + 8 * l + 6))) j).trans (holesZ_bit Z _ j _)
  have hm : holesZ Z (Z (7076 + 8 * l + 1)) (Z (7076 + 8 * l + 6)) / 2 ^ j % 2 < 2 := Nat.mod_lt _ (by decide)
  by_cases q : Z (7076 + 8 * l + 0) = s
  · by_cases q2 : holesZ Z (Z (7076 + 8 * l + 1)) (Z (7076 + 8 * l + 6)) / 2 ^ j % 2 = 1
    · simp (disch := first | assumption | decide | omega) only [D_X1_isAbout, c_lk hs, w_look hw, w_lh' hw, lit, lt64, ofI1, some_bind, if_ib', zB_ib, zBn0, zBn1, zBn, dN_n, nI_add, nI_mul, nI_md, nI_sub, nI_div, md, le_pred, lt_T, lt_F, le_T, le_F, eq_T, eq_F, ng_le, ng_lt, lt_ng, le_ng, eq_ng, max_n, min_n, and_true, true_and, and_false, false_and, and_self, if_true, if_false, ite_self, ↓reduceIte, l_within, l_isC, l_isS, bit_n, c_isJ hs, c_er hs, gr_0_0 hs, gr_0_1 hs, gr_0_2 hs, gr_0_3 hs, gr_0_4 hs, gr_0_5 hs, gr_0_6 hs, gr_0_7 hs, gr_0_8 hs, gr_0_9 hs, gr_1_3 hs, gr_1_4 hs, gr_1_5 hs, gr_1_6 hs, gr_1_7 hs, gr_1_8 hs, gr_1_9 hs, gr_1_10 hs, gr_1_11 hs, gr_1_12 hs, gr_6_3 hs, gr_6_4 hs, gr_6_5 hs, gr_6_6 hs, gr_6_7 hs, gr_6_8 hs, gr_6_9 hs, gr_6_10 hs, gr_6_11 hs, gr_16_2 hs, gr_16_3 hs, gr_16_4 hs, gr_16_5 hs, gr_16_6 hs, gr_16_7 hs, gr_23_0 hs, gr_25_0 hs, gr_27_0 hs, gr_29_0 hs, gr_32_3 hs, gr_32_4 hs, gr_32_5 hs, gr_32_6 hs, gr_32_7 hs, gr_32_8 hs, gr_32_9 hs, gr_32_10 hs, gr_32_11 hs, gr_32_12 hs, gr_37_3 hs, gr_37_4 hs, gr_37_5 hs, gr_37_6 hs, gr_37_7 hs, gr_37_8 hs, gr_37_9 hs, gr_37_10 hs, gr_37_11 hs, gr_47_2 hs, gr_47_3 hs, gr_47_4 hs, gr_47_5 hs, gr_47_6 hs, gr_47_7 hs, gr_54_0 hs, gr_56_0 hs, gr_58_0 hs, gr_60_0 hs, gr_63_3 hs, gr_63_4 hs, gr_63_5 hs, gr_63_6 hs, gr_63_7 hs, gr_63_8 hs, gr_63_9 hs, gr_63_10 hs, gr_63_11 hs, gr_73_0 hs, gr_73_1 hs, gr_73_2 hs, gr_75_0 hs, gr_79_0 hs, ko_0 hs, gi_0 hs, pi_0 hs, ko_1 hs, gi_1 hs, pi_1 hs, al_2 hs, ai_2 hs, ui_2 hs, al_3 hs, ai_3 hs, ui_3 hs, al_4 hs, ai_4 hs, ui_4 hs, ko_6 hs, gi_6 hs, pi_6 hs, al_7 hs, ai_7 hs, ui_7 hs, al_8 hs, ai_8 hs, ui_8 hs, al_9 hs, ai_9 hs, ui_9 hs, al_10 hs, ai_10 hs, ui_10 hs, al_11 hs, ai_11 hs, ui_11 hs, al_12 hs, ai_12 hs, ui_12 hs, al_13 hs, ai_13 hs, ui_13 hs, al_14 hs, ai_14 hs, ui_14 hs, al_15 hs, ai_15 hs, ui_15 hs, ko_16 hs, gi_16 hs, pi_16 hs, al_17 hs, ai_17 hs, ui_17 hs, al_18 hs, ai_18 hs, ui_18 hs, al_19 hs, ai_19 hs, ui_19 hs, al_20 hs, ai_20 hs, ui_20 hs, al_21 hs, ai_21 hs, ui_21 hs, al_22 hs, ai_22 hs, ui_22 hs, ko_23 hs, gi_23 hs, pi_23 hs, al_24 hs, ai_24 hs, ui_24 hs, ko_25 hs, gi_25 hs, pi_25 hs, al_26 hs, ai_26 hs, ui_26 hs, ko_27 hs, gi_27 hs, pi_27 hs, al_28 hs, ai_28 hs, ui_28 hs, ko_29 hs, gi_29 hs, pi_29 hs, al_30 hs, ai_30 hs, ui_30 hs, ko_31 hs, gi_31 hs, pi_31 hs, ko_32 hs, gi_32 hs, pi_32 hs, al_33 hs, ai_33 hs, ui_33 hs, al_34 hs, ai_34 hs, ui_34 hs, al_35 hs, ai_35 hs, ui_35 hs, ko_37 hs, gi_37 hs, pi_37 hs, al_38 hs, ai_38 hs, ui_38 hs, al_39 hs, ai_39 hs, ui_39 hs, al_40 hs, ai_40 hs, ui_40 hs, al_41 hs, ai_41 hs, ui_41 hs, al_42 hs, ai_42 hs, ui_42 hs, al_43 hs, ai_43 hs, ui_43 hs, al_44 hs, ai_44 hs, ui_44 hs, al_45 hs, ai_45 hs, ui_45 hs, al_46 hs, ai_46 hs, ui_46 hs, ko_47 hs, gi_47 hs, pi_47 hs, al_48 hs, ai_48 hs, ui_48 hs, al_49 hs, ai_49 hs, ui_49 hs, al_50 hs, ai_50 hs, ui_50 hs, al_51 hs, ai_51 hs, ui_51 hs, al_52 hs, ai_52 hs, ui_52 hs, al_53 hs, ai_53 hs, ui_53 hs, ko_54 hs, gi_54 hs, pi_54 hs, al_55 hs, ai_55 hs, ui_55 hs, ko_56 hs, gi_56 hs, pi_56 hs, al_57 hs, ai_57 hs, ui_57 hs, ko_58 hs, gi_58 hs, pi_58 hs, al_59 hs, ai_59 hs, ui_59 hs, ko_60 hs, gi_60 hs, pi_60 hs, al_61 hs, ai_61 hs, ui_61 hs, ko_62 hs, gi_62 hs, pi_62 hs, ko_63 hs, gi_63 hs, pi_63 hs, al_64 hs, ai_64 hs, ui_64 hs, al_65 hs, ai_65 hs, ui_65 hs, al_66 hs, ai_66 hs, ui_66 hs, al_67 hs, ai_67 hs, ui_67 hs, al_68 hs, ai_68 hs, ui_68 hs, al_69 hs, ai_69 hs, ui_69 hs, al_70 hs, ai_70 hs, ui_70 hs, al_71 hs, ai_71 hs, ui_71 hs, al_72 hs, ai_72 hs, ui_72 hs, ko_73 hs, gi_73 hs, pi_73 hs, al_74 hs, ai_74 hs, ui_74 hs, ko_75 hs, gi_75 hs, pi_75 hs, al_76 hs, ai_76 hs, ui_76 hs, al_77 hs, ai_77 hs, ui_77 hs, al_78 hs, ai_78 hs, ui_78 hs, ko_79 hs, gi_79 hs, pi_79 hs, al_80 hs, ai_80 hs, ui_80 hs, al_81 hs, ai_81 hs, ui_81 hs, al_82 hs, ai_82 hs, ui_82 hs, al_83 hs, ai_83 hs, ui_83 hs, al_84 hs, ai_84 hs, ui_84 hs, al_85 hs, ai_85 hs, ui_85 hs]
      rw [ibT ⟨q, hP.mp q2⟩]
    · simp (disch := first | assumption | decide | omega) only [D_X1_isAbout, c_lk hs, w_look hw, w_lh' hw, lit, lt64, ofI1, some_bind, if_ib', zB_ib, zBn0, zBn1, zBn, dN_n, nI_add, nI_mul, nI_md, nI_sub, nI_div, md, le_pred, lt_T, lt_F, le_T, le_F, eq_T, eq_F, ng_le, ng_lt, lt_ng, le_ng, eq_ng, max_n, min_n, and_true, true_and, and_false, false_and, and_self, if_true, if_false, ite_self, ↓reduceIte, l_within, l_isC, l_isS, bit_n, c_isJ hs, c_er hs, gr_0_0 hs, gr_0_1 hs, gr_0_2 hs, gr_0_3 hs, gr_0_4 hs, gr_0_5 hs, gr_0_6 hs, gr_0_7 hs, gr_0_8 hs, gr_0_9 hs, gr_1_3 hs, gr_1_4 hs, gr_1_5 hs, gr_1_6 hs, gr_1_7 hs, gr_1_8 hs, gr_1_9 hs, gr_1_10 hs, gr_1_11 hs, gr_1_12 hs, gr_6_3 hs, gr_6_4 hs, gr_6_5 hs, gr_6_6 hs, gr_6_7 hs, gr_6_8 hs, gr_6_9 hs, gr_6_10 hs, gr_6_11 hs, gr_16_2 hs, gr_16_3 hs, gr_16_4 hs, gr_16_5 hs, gr_16_6 hs, gr_16_7 hs, gr_23_0 hs, gr_25_0 hs, gr_27_0 hs, gr_29_0 hs, gr_32_3 hs, gr_32_4 hs, gr_32_5 hs, gr_32_6 hs, gr_32_7 hs, gr_32_8 hs, gr_32_9 hs, gr_32_10 hs, gr_32_11 hs, gr_32_12 hs, gr_37_3 hs, gr_37_4 hs, gr_37_5 hs, gr_37_6 hs, gr_37_7 hs, gr_37_8 hs, gr_37_9 hs, gr_37_10 hs, gr_37_11 hs, gr_47_2 hs, gr_47_3 hs, gr_47_4 hs, gr_47_5 hs, gr_47_6 hs, gr_47_7 hs, gr_54_0 hs, gr_56_0 hs, gr_58_0 hs, gr_60_0 hs, gr_63_3 hs, gr_63_4 hs, gr_63_5 hs, gr_63_6 hs, gr_63_7 hs, gr_63_8 hs, gr_63_9 hs, gr_63_10 hs, gr_63_11 hs, gr_73_0 hs, gr_73_1 hs, gr_73_2 hs, gr_75_0 hs, gr_79_0 hs, ko_0 hs, gi_0 hs, pi_0 hs, ko_1 hs, gi_1 hs, pi_1 hs, al_2 hs, ai_2 hs, ui_2 hs, al_3 hs, ai_3 hs, ui_3 hs, al_4 hs, ai_4 hs, ui_4 hs, ko_6 hs, gi_6 hs, pi_6 hs, al_7 hs, ai_7 hs, ui_7 hs, al_8 hs, ai_8 hs, ui_8 hs, al_9 hs, ai_9 hs, ui_9 hs, al_10 hs, ai_10 hs, ui_10 hs, al_11 hs, ai_11 hs, ui_11 hs, al_12 hs, ai_12 hs, ui_12 hs, al_13 hs, ai_13 hs, ui_13 hs, al_14 hs, ai_14 hs, ui_14 hs, al_15 hs, ai_15 hs, ui_15 hs, ko_16 hs, gi_16 hs, pi_16 hs, al_17 hs, ai_17 hs, ui_17 hs, al_18 hs, ai_18 hs, ui_18 hs, al_19 hs, ai_19 hs, ui_19 hs, al_20 hs, ai_20 hs, ui_20 hs, al_21 hs, ai_21 hs, ui_21 hs, al_22 hs, ai_22 hs, ui_22 hs, ko_23 hs, gi_23 hs, pi_23 hs, al_24 hs, ai_24 hs, ui_24 hs, ko_25 hs, gi_25 hs, pi_25 hs, al_26 hs, ai_26 hs, ui_26 hs, ko_27 hs, gi_27 hs, pi_27 hs, al_28 hs, ai_28 hs, ui_28 hs, ko_29 hs, gi_29 hs, pi_29 hs, al_30 hs, ai_30 hs, ui_30 hs, ko_31 hs, gi_31 hs, pi_31 hs, ko_32 hs, gi_32 hs, pi_32 hs, al_33 hs, ai_33 hs, ui_33 hs, al_34 hs, ai_34 hs, ui_34 hs, al_35 hs, ai_35 hs, ui_35 hs, ko_37 hs, gi_37 hs, pi_37 hs, al_38 hs, ai_38 hs, ui_38 hs, al_39 hs, ai_39 hs, ui_39 hs, al_40 hs, ai_40 hs, ui_40 hs, al_41 hs, ai_41 hs, ui_41 hs, al_42 hs, ai_42 hs, ui_42 hs, al_43 hs, ai_43 hs, ui_43 hs, al_44 hs, ai_44 hs, ui_44 hs, al_45 hs, ai_45 hs, ui_45 hs, al_46 hs, ai_46 hs, ui_46 hs, ko_47 hs, gi_47 hs, pi_47 hs, al_48 hs, ai_48 hs, ui_48 hs, al_49 hs, ai_49 hs, ui_49 hs, al_50 hs, ai_50 hs, ui_50 hs, al_51 hs, ai_51 hs, ui_51 hs, al_52 hs, ai_52 hs, ui_52 hs, al_53 hs, ai_53 hs, ui_53 hs, ko_54 hs, gi_54 hs, pi_54 hs, al_55 hs, ai_55 hs, ui_55 hs, ko_56 hs, gi_56 hs, pi_56 hs, al_57 hs, ai_57 hs, ui_57 hs, ko_58 hs, gi_58 hs, pi_58 hs, al_59 hs, ai_59 hs, ui_59 hs, ko_60 hs, gi_60 hs, pi_60 hs, al_61 hs, ai_61 hs, ui_61 hs, ko_62 hs, gi_62 hs, pi_62 hs, ko_63 hs, gi_63 hs, pi_63 hs, al_64 hs, ai_64 hs, ui_64 hs, al_65 hs, ai_65 hs, ui_65 hs, al_66 hs, ai_66 hs, ui_66 hs, al_67 hs, ai_67 hs, ui_67 hs, al_68 hs, ai_68 hs, ui_68 hs, al_69 hs, ai_69 hs, ui_69 hs, al_70 hs, ai_70 hs, ui_70 hs, al_71 hs, ai_71 hs, ui_71 hs, al_72 hs, ai_72 hs, ui_72 hs, ko_73 hs, gi_73 hs, pi_73 hs, al_74 hs, ai_74 hs, ui_74 hs, ko_75 hs, gi_75 hs, pi_75 hs, al_76 hs, ai_76 hs, ui_76 hs, al_77 hs, ai_77 hs, ui_77 hs, al_78 hs, ai_78 hs, ui_78 hs, ko_79 hs, gi_79 hs, pi_79 hs, al_80 hs, ai_80 hs, ui_80 hs, al_81 hs, ai_81 hs, ui_81 hs, al_82 hs, ai_82 hs, ui_82 hs, al_83 hs, ai_83 hs, ui_83 hs, al_84 hs, ai_84 hs, ui_84 hs, al_85 hs, ai_85 hs, ui_85 hs]
      rw [ibF (fun x => q2 (hP.mpr x.2))]
  · simp (disch := first | assumption | decide | omega) only [D_X1_isAbout, c_lk hs, w_look hw, w_lh' hw, lit, lt64, ofI1, some_bind, if_ib', zB_ib, zBn0, zBn1, zBn, dN_n, nI_add, nI_mul, nI_md, nI_sub, nI_div, md, le_pred, lt_T, lt_F, le_T, le_F, eq_T, eq_F, ng_le, ng_lt, lt_ng, le_ng, eq_ng, max_n, min_n, and_true, true_and, and_false, false_and, and_self, if_true, if_false, ite_self, ↓reduceIte, l_within, l_isC, l_isS, bit_n, c_isJ hs, c_er hs, gr_0_0 hs, gr_0_1 hs, gr_0_2 hs, gr_0_3 hs, gr_0_4 hs, gr_0_5 hs, gr_0_6 hs, gr_0_7 hs, gr_0_8 hs, gr_0_9 hs, gr_1_3 hs, gr_1_4 hs, gr_1_5 hs, gr_1_6 hs, gr_1_7 hs, gr_1_8 hs, gr_1_9 hs, gr_1_10 hs, gr_1_11 hs, gr_1_12 hs, gr_6_3 hs, gr_6_4 hs, gr_6_5 hs, gr_6_6 hs, gr_6_7 hs, gr_6_8 hs, gr_6_9 hs, gr_6_10 hs, gr_6_11 hs, gr_16_2 hs, gr_16_3 hs, gr_16_4 hs, gr_16_5 hs, gr_16_6 hs, gr_16_7 hs, gr_23_0 hs, gr_25_0 hs, gr_27_0 hs, gr_29_0 hs, gr_32_3 hs, gr_32_4 hs, gr_32_5 hs, gr_32_6 hs, gr_32_7 hs, gr_32_8 hs, gr_32_9 hs, gr_32_10 hs, gr_32_11 hs, gr_32_12 hs, gr_37_3 hs, gr_37_4 hs, gr_37_5 hs, gr_37_6 hs, gr_37_7 hs, gr_37_8 hs, gr_37_9 hs, gr_37_10 hs, gr_37_11 hs, gr_47_2 hs, gr_47_3 hs, gr_47_4 hs, gr_47_5 hs, gr_47_6 hs, gr_47_7 hs, gr_54_0 hs, gr_56_0 hs, gr_58_0 hs, gr_60_0 hs, gr_63_3 hs, gr_63_4 hs, gr_63_5 hs, gr_63_6 hs, gr_63_7 hs, gr_63_8 hs, gr_63_9 hs, gr_63_10 hs, gr_63_11 hs, gr_73_0 hs, gr_73_1 hs, gr_73_2 hs, gr_75_0 hs, gr_79_0 hs, ko_0 hs, gi_0 hs, pi_0 hs, ko_1 hs, gi_1 hs, pi_1 hs, al_2 hs, ai_2 hs, ui_2 hs, al_3 hs, ai_3 hs, ui_3 hs, al_4 hs, ai_4 hs, ui_4 hs, ko_6 hs, gi_6 hs, pi_6 hs, al_7 hs, ai_7 hs, ui_7 hs, al_8 hs, ai_8 hs, ui_8 hs, al_9 hs, ai_9 hs, ui_9 hs, al_10 hs, ai_10 hs, ui_10 hs, al_11 hs, ai_11 hs, ui_11 hs, al_12 hs, ai_12 hs, ui_12 hs, al_13 hs, ai_13 hs, ui_13 hs, al_14 hs, ai_14 hs, ui_14 hs, al_15 hs, ai_15 hs, ui_15 hs, ko_16 hs, gi_16 hs, pi_16 hs, al_17 hs, ai_17 hs, ui_17 hs, al_18 hs, ai_18 hs, ui_18 hs, al_19 hs, ai_19 hs, ui_19 hs, al_20 hs, ai_20 hs, ui_20 hs, al_21 hs, ai_21 hs, ui_21 hs, al_22 hs, ai_22 hs, ui_22 hs, ko_23 hs, gi_23 hs, pi_23 hs, al_24 hs, ai_24 hs, ui_24 hs, ko_25 hs, gi_25 hs, pi_25 hs, al_26 hs, ai_26 hs, ui_26 hs, ko_27 hs, gi_27 hs, pi_27 hs, al_28 hs, ai_28 hs, ui_28 hs, ko_29 hs, gi_29 hs, pi_29 hs, al_30 hs, ai_30 hs, ui_30 hs, ko_31 hs, gi_31 hs, pi_31 hs, ko_32 hs, gi_32 hs, pi_32 hs, al_33 hs, ai_33 hs, ui_33 hs, al_34 hs, ai_34 hs, ui_34 hs, al_35 hs, ai_35 hs, ui_35 hs, ko_37 hs, gi_37 hs, pi_37 hs, al_38 hs, ai_38 hs, ui_38 hs, al_39 hs, ai_39 hs, ui_39 hs, al_40 hs, ai_40 hs, ui_40 hs, al_41 hs, ai_41 hs, ui_41 hs, al_42 hs, ai_42 hs, ui_42 hs, al_43 hs, ai_43 hs, ui_43 hs, al_44 hs, ai_44 hs, ui_44 hs, al_45 hs, ai_45 hs, ui_45 hs, al_46 hs, ai_46 hs, ui_46 hs, ko_47 hs, gi_47 hs, pi_47 hs, al_48 hs, ai_48 hs, ui_48 hs, al_49 hs, ai_49 hs, ui_49 hs, al_50 hs, ai_50 hs, ui_50 hs, al_51 hs, ai_51 hs, ui_51 hs, al_52 hs, ai_52 hs, ui_52 hs, al_53 hs, ai_53 hs, ui_53 hs, ko_54 hs, gi_54 hs, pi_54 hs, al_55 hs, ai_55 hs, ui_55 hs, ko_56 hs, gi_56 hs, pi_56 hs, al_57 hs, ai_57 hs, ui_57 hs, ko_58 hs, gi_58 hs, pi_58 hs, al_59 hs, ai_59 hs, ui_59 hs, ko_60 hs, gi_60 hs, pi_60 hs, al_61 hs, ai_61 hs, ui_61 hs, ko_62 hs, gi_62 hs, pi_62 hs, ko_63 hs, gi_63 hs, pi_63 hs, al_64 hs, ai_64 hs, ui_64 hs, al_65 hs, ai_65 hs, ui_65 hs, al_66 hs, ai_66 hs, ui_66 hs, al_67 hs, ai_67 hs, ui_67 hs, al_68 hs, ai_68 hs, ui_68 hs, al_69 hs, ai_69 hs, ui_69 hs, al_70 hs, ai_70 hs, ui_70 hs, al_71 hs, ai_71 hs, ui_71 hs, al_72 hs, ai_72 hs, ui_72 hs, ko_73 hs, gi_73 hs, pi_73 hs, al_74 hs, ai_74 hs, ui_74 hs, ko_75 hs, gi_75 hs, pi_75 hs, al_76 hs, ai_76 hs, ui_76 hs, al_77 hs, ai_77 hs, ui_77 hs, al_78 hs, ai_78 hs, ui_78 hs, ko_79 hs, gi_79 hs, pi_79 hs, al_80 hs, ai_80 hs, ui_80 hs, al_81 hs, ai_81 hs, ui_81 hs, al_82 hs, ai_82 hs, ui_82 hs, al_83 hs, ai_83 hs, ui_83 hs, al_84 hs, ai_84 hs, ui_84 hs, al_85 hs, ai_85 hs, ui_85 hs]
    rw [ibF (fun x => q x.1)]
theorem c_saw (hs : Sh h) (N : Nat) (F0 : F2) (hw : R_world TX h G C Z 1 M) {l : Nat} (hl : l < Z 4) : D_X1_saw N (mh_w h (cz F0 C)) 16 (nI l) = some (ib (Z (7076 + 8 * l + 4) = 1) inferInstance, mh_w h (cz F0 C)) := by
  obtain ⟨b0, bs, b1, -, -, b4, -⟩ := lk_b hw.1 hl
  by_cases q : Z (7076 + 8 * l + 4) = 1
  · simp (disch := first | assumption | decide | omega) only [D_X1_saw, c_lk hs, w_look hw, lit, lt64, ofI1, some_bind, if_ib', zB_ib, zBn0, zBn1, zBn, dN_n, nI_add, nI_mul, nI_md, nI_sub, nI_div, md, le_pred, lt_T, lt_F, le_T, le_F, eq_T, eq_F, ng_le, ng_lt, lt_ng, le_ng, eq_ng, max_n, min_n, and_true, true_and, and_false, false_and, and_self, if_true, if_false, ite_self, ↓reduceIte, l_within, l_isC, l_isS, bit_n, c_isJ hs, c_er hs, gr_0_0 hs, gr_0_1 hs, gr_0_2 hs, gr_0_3 hs, gr_0_4 hs, gr_0_5 hs, gr_0_6 hs, gr_0_7 hs, gr_0_8 hs, gr_0_9 hs, gr_1_3 hs, gr_1_4 hs, gr_1_5 hs, gr_1_6 hs, gr_1_7 hs, gr_1_8 hs, gr_1_9 hs, gr_1_10 hs, gr_1_11 hs, gr_1_12 hs, gr_6_3 hs, gr_6_4 hs, gr_6_5 hs, gr_6_6 hs, gr_6_7 hs, gr_6_8 hs, gr_6_9 hs, gr_6_10 hs, gr_6_11 hs, gr_16_2 hs, gr_16_3 hs, gr_16_4 hs, gr_16_5 hs, gr_16_6 hs, gr_16_7 hs, gr_23_0 hs, gr_25_0 hs, gr_27_0 hs, gr_29_0 hs, gr_32_3 hs, gr_32_4 hs, gr_32_5 hs, gr_32_6 hs, gr_32_7 hs, gr_32_8 hs, gr_32_9 hs, gr_32_10 hs, gr_32_11 hs, gr_32_12 hs, gr_37_3 hs, gr_37_4 hs, gr_37_5 hs, gr_37_6 hs, gr_37_7 hs, gr_37_8 hs, gr_37_9 hs, gr_37_10 hs, gr_37_11 hs, gr_47_2 hs, gr_47_3 hs, gr_47_4 hs, gr_47_5 hs, gr_47_6 hs, gr_47_7 hs, gr_54_0 hs, gr_56_0 hs, gr_58_0 hs, gr_60_0 hs, gr_63_3 hs, gr_63_4 hs, gr_63_5 hs, gr_63_6 hs, gr_63_7 hs, gr_63_8 hs, gr_63_9 hs, gr_63_10 hs, gr_63_11 hs, gr_73_0 hs, gr_73_1 hs, gr_73_2 hs, gr_75_0 hs, gr_79_0 hs, ko_0 hs, gi_0 hs, pi_0 hs, ko_1 hs, gi_1 hs, pi_1 hs, al_2 hs, ai_2 hs, ui_2 hs, al_3 hs, ai_3 hs, ui_3 hs, al_4 hs, ai_4 hs, ui_4 hs, ko_6 hs, gi_6 hs, pi_6 hs, al_7 hs, ai_7 hs, ui_7 hs, al_8 hs, ai_8 hs, ui_8 hs, al_9 hs, ai_9 hs, ui_9 hs, al_10 hs, ai_10 hs, ui_10 hs, al_11 hs, ai_11 hs, ui_11 hs, al_12 hs, ai_12 hs, ui_12 hs, al_13 hs, ai_13 hs, ui_13 hs, al_14 hs, ai_14 hs, ui_14 hs, al_15 hs, ai_15 hs, ui_15 hs, ko_16 hs, gi_16 hs, pi_16 hs, al_17 hs, ai_17 hs, ui_17 hs, al_18 hs, ai_18 hs, ui_18 hs, al_19 hs, ai_19 hs, ui_19 hs, al_20 hs, ai_20 hs, ui_20 hs, al_21 hs, ai_21 hs, ui_21 hs, al_22 hs, ai_22 hs, ui_22 hs, ko_23 hs, gi_23 hs, pi_23 hs, al_24 hs, ai_24 hs, ui_24 hs, ko_25 hs, gi_25 hs, pi_25 hs, al_26 hs, ai_26 hs, ui_26 hs, ko_27 hs, gi_27 hs, pi_27 hs, al_28 hs, ai_28 hs, ui_28 hs, ko_29 hs, gi_29 hs, pi_29 hs, al_30 hs, ai_30 hs, ui_30 hs, ko_31 hs, gi_31 hs, pi_31 hs, ko_32 hs, gi_32 hs, pi_32 hs, al_33 hs, ai_33 hs, ui_33 hs, al_34 hs, ai_34 hs, ui_34 hs, al_35 hs, ai_35 hs, ui_35 hs, ko_37 hs, gi_37 hs, pi_37 hs, al_38 hs, ai_38 hs, ui_38 hs, al_39 hs, ai_39 hs, ui_39 hs, al_40 hs, ai_40 hs, ui_40 hs, al_41 hs, ai_41 hs, ui_41 hs, al_42 hs, ai_42 hs, ui_42 hs, al_43 hs, ai_43 hs, ui_43 hs, al_44 hs, ai_44 hs, ui_44 hs, al_45 hs, ai_45 hs, ui_45 hs, al_46 hs, ai_46 hs, ui_46 hs, ko_47 hs, gi_47 hs, pi_47 hs, al_48 hs, ai_48 hs, ui_48 hs, al_49 hs, ai_49 hs, ui_49 hs, al_50 hs, ai_50 hs, ui_50 hs, al_51 hs, ai_51 hs, ui_51 hs, al_52 hs, ai_52 hs, ui_52 hs, al_53 hs, ai_53 hs, ui_53 hs, ko_54 hs, gi_54 hs, pi_54 hs, al_55 hs, ai_55 hs, ui_55 hs, ko_56 hs, gi_56 hs, pi_56 hs, al_57 hs, ai_57 hs, ui_57 hs, ko_58 hs, gi_58 hs, pi_58 hs, al_59 hs, ai_59 hs, ui_59 hs, ko_60 hs, gi_60 hs, pi_60 hs, al_61 hs, ai_61 hs, ui_61 hs, ko_62 hs, gi_62 hs, pi_62 hs, ko_63 hs, gi_63 hs, pi_63 hs, al_64 hs, ai_64 hs, ui_64 hs, al_65 hs, ai_65 hs, ui_65 hs, al_66 hs, ai_66 hs, ui_66 hs, al_67 hs, ai_67 hs, ui_67 hs, al_68 hs, ai_68 hs, ui_68 hs, al_69 hs, ai_69 hs, ui_69 hs, al_70 hs, ai_70 hs, ui_70 hs, al_71 hs, ai_71 hs, ui_71 hs, al_72 hs, ai_72 hs, ui_72 hs, ko_73 hs, gi_73 hs, pi_73 hs, al_74 hs, ai_74 hs, ui_74 hs, ko_75 hs, gi_75 hs, pi_75 hs, al_76 hs, ai_76 hs, ui_76 hs, al_77 hs, ai_77 hs, ui_77 hs, al_78 hs, ai_78 hs, ui_78 hs, ko_79 hs, gi_79 hs, pi_79 hs, al_80 hs, ai_80 hs, ui_80 hs, al_81 hs, ai_81 hs, ui_81 hs, al_82 hs, ai_82 hs, ui_82 hs, al_83 hs, ai_83 hs, ui_83 hs, al_84 hs, ai_84 hs, ui_84 hs, al_85 hs, ai_85 hs, ui_85 hs]
    rw [ibT q]
  · simp (disch := first | assumption | decide | omega) only [D_X1_saw, c_lk hs, w_look hw, lit, lt64, ofI1, some_bind, if_ib', zB_ib, zBn0, zBn1, zBn, dN_n, nI_add, nI_mul, nI_md, nI_sub, nI_div, md, le_pred, lt_T, lt_F, le_T, le_F, eq_T, eq_F, ng_le, ng_lt, lt_ng, le_ng, eq_ng, max_n, min_n, and_true, true_and, and_false, false_and, and_self, if_true, if_false, ite_self, ↓reduceIte, l_within, l_isC, l_isS, bit_n, c_isJ hs, c_er hs, gr_0_0 hs, gr_0_1 hs, gr_0_2 hs, gr_0_3 hs, gr_0_4 hs, gr_0_5 hs, gr_0_6 hs, gr_0_7 hs, gr_0_8 hs, gr_0_9 hs, gr_1_3 hs, gr_1_4 hs, gr_1_5 hs, gr_1_6 hs, gr_1_7 hs, gr_1_8 hs, gr_1_9 hs, gr_1_10 hs, gr_1_11 hs, gr_1_12 hs, gr_6_3 hs, gr_6_4 hs, gr_6_5 hs, gr_6_6 hs, gr_6_7 hs, gr_6_8 hs, gr_6_9 hs, gr_6_10 hs, gr_6_11 hs, gr_16_2 hs, gr_16_3 hs, gr_16_4 hs, gr_16_5 hs, gr_16_6 hs, gr_16_7 hs, gr_23_0 hs, gr_25_0 hs, gr_27_0 hs, gr_29_0 hs, gr_32_3 hs, gr_32_4 hs, gr_32_5 hs, gr_32_6 hs, gr_32_7 hs, gr_32_8 hs, gr_32_9 hs, gr_32_10 hs, gr_32_11 hs, gr_32_12 hs, gr_37_3 hs, gr_37_4 hs, gr_37_5 hs, gr_37_6 hs, gr_37_7 hs, gr_37_8 hs, gr_37_9 hs, gr_37_10 hs, gr_37_11 hs, gr_47_2 hs, gr_47_3 hs, gr_47_4 hs, gr_47_5 hs, gr_47_6 hs, gr_47_7 hs, gr_54_0 hs, gr_56_0 hs, gr_58_0 hs, gr_60_0 hs, gr_63_3 hs, gr_63_4 hs, gr_63_5 hs, gr_63_6 hs, gr_63_7 hs, gr_63_8 hs, gr_63_9 hs, gr_63_10 hs, gr_63_11 hs, gr_73_0 hs, gr_73_1 hs, gr_73_2 hs, gr_75_0 hs, gr_79_0 hs, ko_0 hs, gi_0 hs, pi_0 hs, ko_1 hs, gi_1 hs, pi_1 hs, al_2 hs, ai_2 hs, ui_2 hs, al_3 hs, ai_3 hs, ui_3 hs, al_4 hs, ai_4 hs, ui_4 hs, ko_6 hs, gi_6 hs, pi_6 hs, al_7 hs, ai_7 hs, ui_7 hs, al_8 hs, ai_8 hs, ui_8 hs, al_9 hs, ai_9 hs, ui_9 hs, al_10 hs, ai_10 hs, ui_10 hs, al_11 hs, ai_11 hs, ui_11 hs, al_12 hs, ai_12 hs, ui_12 hs, al_13 hs, ai_13 hs, ui_13 hs, al_14 hs, ai_14 hs, ui_14 hs, al_15 hs, ai_15 hs, ui_15 hs, ko_16 hs, gi_16 hs, pi_16 hs, al_17 hs, ai_17 hs, ui_17 hs, al_18 hs, ai_18 hs, ui_18 hs, al_19 hs, ai_19 hs, ui_19 hs, al_20 hs, ai_20 hs, ui_20 hs, al_21 hs, ai_21 hs, ui_21 hs, al_22 hs, ai_22 hs, ui_22 hs, ko_23 hs, gi_23 hs, pi_23 hs, al_24 hs, ai_24 hs, ui_24 hs, ko_25 hs, gi_25 hs, pi_25 hs, al_26 hs, ai_26 hs, ui_26 hs, ko_27 hs, gi_27 hs, pi_27 hs, al_28 hs, ai_28 hs, ui_28 hs, ko_29 hs, gi_29 hs, pi_29 hs, al_30 hs, ai_30 hs, ui_30 hs, ko_31 hs, gi_31 hs, pi_31 hs, ko_32 hs, gi_32 hs, pi_32 hs, al_33 hs, ai_33 hs, ui_33 hs, al_34 hs, ai_34 hs, ui_34 hs, al_35 hs, ai_35 hs, ui_35 hs, ko_37 hs, gi_37 hs, pi_37 hs, al_38 hs, ai_38 hs, ui_38 hs, al_39 hs, ai_39 hs, ui_39 hs, al_40 hs, ai_40 hs, ui_40 hs, al_41 hs, ai_41 hs, ui_41 hs, al_42 hs, ai_42 hs, ui_42 hs, al_43 hs, ai_43 hs, ui_43 hs, al_44 hs, ai_44 hs, ui_44 hs, al_45 hs, ai_45 hs, ui_45 hs, al_46 hs, ai_46 hs, ui_46 hs, ko_47 hs, gi_47 hs, pi_47 hs, al_48 hs, ai_48 hs, ui_48 hs, al_49 hs, ai_49 hs, ui_49 hs, al_50 hs, ai_50 hs, ui_50 hs, al_51 hs, ai_51 hs, ui_51 hs, al_52 hs, ai_52 hs, ui_52 hs, al_53 hs, ai_53 hs, ui_53 hs, ko_54 hs, gi_54 hs, pi_54 hs, al_55 hs, ai_55 hs, ui_55 hs, ko_56 hs, gi_56 hs, pi_56 hs, al_57 hs, ai_57 hs, ui_57 hs, ko_58 hs, gi_58 hs, pi_58 hs, al_59 hs, ai_59 hs, ui_59 hs, ko_60 hs, gi_60 hs, pi_60 hs, al_61 hs, ai_61 hs, ui_61 hs, ko_62 hs, gi_62 hs, pi_62 hs, ko_63 hs, gi_63 hs, pi_63 hs, al_64 hs, ai_64 hs, ui_64 hs, al_65 hs, ai_65 hs, ui_65 hs, al_66 hs, ai_66 hs, ui_66 hs, al_67 hs, ai_67 hs, ui_67 hs, al_68 hs, ai_68 hs, ui_68 hs, al_69 hs, ai_69 hs, ui_69 hs, al_70 hs, ai_70 hs, ui_70 hs, al_71 hs, ai_71 hs, ui_71 hs, al_72 hs, ai_72 hs, ui_72 hs, ko_73 hs, gi_73 hs, pi_73 hs, al_74 hs, ai_74 hs, ui_74 hs, ko_75 hs, gi_75 hs, pi_75 hs, al_76 hs, ai_76 hs, ui_76 hs, al_77 hs, ai_77 hs, ui_77 hs, al_78 hs, ai_78 hs, ui_78 hs, ko_79 hs, gi_79 hs, pi_79 hs, al_80 hs, ai_80 hs, ui_80 hs, al_81 hs, ai_81 hs, ui_81 hs, al_82 hs, ai_82 hs, ui_82 hs, al_83 hs, ai_83 hs, ui_83 hs, al_84 hs, ai_84 hs, ui_84 hs, al_85 hs, ai_85 hs, ui_85 hs]
    rw [ibF q]
/-- what LOOK l says of a pair -/
noncomputable def sdv (Z : Z1) (j s w l : Nat) : Nat := @ite _ (Z (7076 + 8 * l + 0) = s ∧ (w = 0 ∨ Z (7076 + 8 * l + 5) = w - 1) ∧ PUT Z (Z (7076 + 8 * l + 1)) j (Z (7076 + 8 * l + 6))) (cd _) (if Z (7076 + 8 * l + 4) = 0 then 1 else @ite _ (OTH Z (Z (7076 + 8 * l + 1)) j (Z (7076 + 8 * l + 6))) (cd _) 2 3) 0
noncomputable def sdm (Z : Z1) (j s w k : Nat) : Nat → Nat → Nat
  | 0, b => b
  | m + 1, b => sdm Z j s w (k + 1) m (max b (sdv Z j s w k))
noncomputable def saidZ (Z : Z1) (j s w : Nat) : Nat := sdm Z j s w 0 (Z 4) 0
theorem sdv_3 (Z : Z1) (j s w l : Nat) : sdv Z j s w l ≤ 3 := by
  unfold sdv
  split
  · split
    · decide
    · split <;> decide
  · decide
theorem sdm_3 (Z : Z1) (j s w : Nat) : ∀ m k b, b ≤ 3 → sdm Z j s w k m b ≤ 3 := by
  intro m
  induction m with
  | zero => intro k b hb; exact hb
  | succ m ih =>
    intro k b hb
    have := sdv_3 Z j s w k
    exact ih (k + 1) _ (by omega)
theorem said_3 (Z : Z1) (j s w : Nat) : saidZ Z j s w ≤ 3 := sdm_3 Z j s w _ _ _ (by decide)
theorem m_said_l (hs : Sh h) {N : Nat} (hN : 10000 ≤ N) (F0 : F2) (hB : B_all Z) {j s w : Nat} (hj : j < 16) (hsp : s < 16) (hw2 : w ≤ 2) : ∀ (m F k b : Nat), k + m = Z 4 → m < F → b ≤ 3 → D_X12_said_6 N F (mh_w h (gz F0 Z)) 86 (nI j) (nI s) (nI w) (nI b) (nI k) = some (nI (sdm Z j s w k m b), mh_w h (gz F0 Z)) := by
  have c4 := hB.1.2.2.2.2.1
  intro m
  induction m with
  | zero =>
    intro F k b hk hF hb; obtain ⟨F, rfl⟩ : ∃ F1, F = F1 + 1 := ⟨F - 1, by omega⟩
    simp (disch := first | assumption | decide | omega) only [D_X12_said_6, sdm, lit, lt64, ofI1, some_bind, if_ib', zB_ib, zBn0, zBn1, zBn, dN_n, nI_add, nI_mul, nI_md, nI_sub, nI_div, md, le_pred, lt_T, lt_F, le_T, le_F, eq_T, eq_F, ng_le, ng_lt, lt_ng, le_ng, eq_ng, max_n, min_n, and_true, true_and, and_false, false_and, and_self, if_true, if_false, ite_self, ↓reduceIte, m_in32, m_isC, m_isS, m_isJ hs, m_jnt, m_er hs, gr_86_0 hs, gr_86_1 hs, gr_86_2 hs, gr_86_4 hs, gr_86_5 hs, gr_86_6 hs, gr_86_7 hs, gr_86_8 hs, gr_86_15 hs, gr_86_16 hs, gr_86_17 hs, gr_86_18 hs, gr_86_19 hs, gr_86_20 hs, gr_86_21 hs, gr_86_27 hs, gr_86_28 hs, gr_86_29 hs, ko_86 hs, gi_86 hs, pi_86 hs, al_87 hs, ai_87 hs, ui_87 hs, al_88 hs, ai_88 hs, ui_88 hs, al_89 hs, ai_89 hs, ui_89 hs, al_90 hs, ai_90 hs, ui_90 hs, al_91 hs, ai_91 hs, ui_91 hs, al_92 hs, ai_92 hs, ui_92 hs, al_93 hs, ai_93 hs, ui_93 hs, al_94 hs, ai_94 hs, ui_94 hs, al_95 hs, ai_95 hs, ui_95 hs, al_96 hs, ai_96 hs, ui_96 hs, al_97 hs, ai_97 hs, ui_97 hs, al_98 hs, ai_98 hs, ui_98 hs, al_99 hs, ai_99 hs, ui_99 hs, al_100 hs, ai_100 hs, ui_100 hs, al_101 hs, ai_101 hs, ui_101 hs, al_102 hs, ai_102 hs, ui_102 hs, al_103 hs, ai_103 hs, ui_103 hs, al_104 hs, ai_104 hs, ui_104 hs]
  | succ m ih =>
    intro F k b hk hF hb
    obtain ⟨F, rfl⟩ : ∃ F1, F = F1 + 1 := ⟨F - 1, by omega⟩
    obtain ⟨b0, bs, b1, -, -, b4, b5, b6, b7⟩ := lk_b hB (show k < Z 4 by omega)
    have st : ∀ v, v ≤ 3 → sdv Z j s w k = v → D_X12_said_102 N (D_X12_said_6 N F) (mh_w h (gz F0 Z)) 86 (nI j) (nI s) (nI w) (nI b) (nI k) (nI v) = some (nI (sdm Z j s w k (m + 1) b), mh_w h (gz F0 Z)) := by
      intro v hv e
      by_cases q : v ≤ b
      · simp (disch := first | assumption | decide | omega) only [D_X12_said_118, D_X12_said_102, D_X12_said_61, D_X12_said_60, D_X12_said_45, D_X12_said, sdm, ih, lit, lt64, ofI1, some_bind, if_ib', zB_ib, zBn0, zBn1, zBn, dN_n, nI_add, nI_mul, nI_md, nI_sub, nI_div, md, le_pred, lt_T, lt_F, le_T, le_F, eq_T, eq_F, ng_le, ng_lt, lt_ng, le_ng, eq_ng, max_n, min_n, and_true, true_and, and_false, false_and, and_self, if_true, if_false, ite_self, ↓reduceIte, m_in32, m_isC, m_isS, m_isJ hs, m_jnt, m_er hs, gr_86_0 hs, gr_86_1 hs, gr_86_2 hs, gr_86_4 hs, gr_86_5 hs, gr_86_6 hs, gr_86_7 hs, gr_86_8 hs, gr_86_15 hs, gr_86_16 hs, gr_86_17 hs, gr_86_18 hs, gr_86_19 hs, gr_86_20 hs, gr_86_21 hs, gr_86_27 hs, gr_86_28 hs, gr_86_29 hs, ko_86 hs, gi_86 hs, pi_86 hs, al_87 hs, ai_87 hs, ui_87 hs, al_88 hs, ai_88 hs, ui_88 hs, al_89 hs, ai_89 hs, ui_89 hs, al_90 hs, ai_90 hs, ui_90 hs, al_91 hs, ai_91 hs, ui_91 hs, al_92 hs, ai_92 hs, ui_92 hs, al_93 hs, ai_93 hs, ui_93 hs, al_94 hs, ai_94 hs, ui_94 hs, al_95 hs, ai_95 hs, ui_95 hs, al_96 hs, ai_96 hs, ui_96 hs, al_97 hs, ai_97 hs, ui_97 hs, al_98 hs, ai_98 hs, ui_98 hs, al_99 hs, ai_99 hs, ui_99 hs, al_100 hs, ai_100 hs, ui_100 hs, al_101 hs, ai_101 hs, ui_101 hs, al_102 hs, ai_102 hs, ui_102 hs, al_103 hs, ai_103 hs, ui_103 hs, al_104 hs, ai_104 hs, ui_104 hs]
        rw [e, Nat.max_eq_left q]
      · simp (disch := first | assumption | decide | omega) only [D_X12_said_118, D_X12_said_102, D_X12_said_61, D_X12_said_60, D_X12_said_45, D_X12_said, sdm, ih, lit, lt64, ofI1, some_bind, if_ib', zB_ib, zBn0, zBn1, zBn, dN_n, nI_add, nI_mul, nI_md, nI_sub, nI_div, md, le_pred, lt_T, lt_F, le_T, le_F, eq_T, eq_F, ng_le, ng_lt, lt_ng, le_ng, eq_ng, max_n, min_n, and_true, true_and, and_false, false_and, and_self, if_true, if_false, ite_self, ↓reduceIte, m_in32, m_isC, m_isS, m_isJ hs, m_jnt, m_er hs, gr_86_0 hs, gr_86_1 hs, gr_86_2 hs, gr_86_4 hs, gr_86_5 hs, gr_86_6 hs, gr_86_7 hs, gr_86_8 hs, gr_86_15 hs, gr_86_16 hs, gr_86_17 hs, gr_86_18 hs, gr_86_19 hs, gr_86_20 hs, gr_86_21 hs, gr_86_27 hs, gr_86_28 hs, gr_86_29 hs, ko_86 hs, gi_86 hs, pi_86 hs, al_87 hs, ai_87 hs, ui_87 hs, al_88 hs, ai_88 hs, ui_88 hs, al_89 hs, ai_89 hs, ui_89 hs, al_90 hs, ai_90 hs, ui_90 hs, al_91 hs, ai_91 hs, ui_91 hs, al_92 hs, ai_92 hs, ui_92 hs, al_93 hs, ai_93 hs, ui_93 hs, al_94 hs, ai_94 hs, ui_94 hs, al_95 hs, ai_95 hs, ui_95 hs, al_96 hs, ai_96 hs, ui_96 hs, al_97 hs, ai_97 hs, ui_97 hs, al_98 hs, ai_98 hs, ui_98 hs, al_99 hs, ai_99 hs, ui_99 hs, al_100 hs, ai_100 hs, ui_100 hs, al_101 hs, ai_101 hs, ui_101 hs, al_102 hs, ai_102 hs, ui_102 hs, al_103 hs, ai_103 hs, ui_103 hs, al_104 hs, ai_104 hs, ui_104 hs]
        rw [e, Nat.max_eq_right (by omega)]
    have st0 := st 0 (by decide)
    have st1 := st 1 (by decide)
    have st2 := st 2 (by decide)
    have st3 := st 3 (by decide)
    clear st ih
    have hk4 : k < Z 4 := by omega
    by_cases q : Z (7076 + 8 * k + 0) = s
    · by_cases q1 : w = 0 ∨ Z (7076 + 8 * k + 5) = w - 1
      · by_cases q2 : PUT Z (Z (7076 + 8 * k + 1)) j (Z (7076 + 8 * k + 6))
        · have hp := (show Z (7076 + 8 * k + 0) = s ∧ (w = 0 ∨ Z (7076 + 8 * k + 5) = w - 1) ∧ PUT Z (Z (7076 + 8 * k + 1)) j (Z (7076 + 8 * k + 6)) from ⟨q, q1, q2⟩)
          have main : D_X12_said_45 N (D_X12_said_6 N F) (mh_w h (gz F0 Z)) 86 (nI j) (nI s) (nI w) (nI b) (nI k) = some (nI (sdm Z j s w k (m + 1) b), mh_w h (gz F0 Z)) := by
            by_cases q3 : Z (7076 + 8 * k + 4) = 0
            · have e1 := st1 (by unfold sdv; rw [if_pos hp, if_pos q3])
              unfold D_X12_said_45 D_X12_said_61
              simp (disch := first | assumption | decide | omega) only [lit, some_bind, ko_86 hs, m_wp0 hs hN, q2, if_ib', m_lk hs, eq_T, eq_F, and_self, ↓reduceIte, e1]
            · by_cases q4 : OTH Z (Z (7076 + 8 * k + 1)) j (Z (7076 + 8 * k + 6))
              · have e1 := st2 (by unfold sdv; rw [if_pos hp, if_neg q3, if_pos q4])
                unfold D_X12_said_45 D_X12_said_61
                simp (disch := first | assumption | decide | omega) only [lit, some_bind, ko_86 hs, m_wp0 hs hN, m_wp1 hs hN, q2, q4, if_ib', m_lk hs, eq_T, eq_F, and_self, ↓reduceIte, e1]
              · have e1 := st3 (by unfold sdv; rw [if_pos hp, if_neg q3, if_neg q4])
                unfold D_X12_said_45 D_X12_said_61
                simp (disch := first | assumption | decide | omega) only [lit, some_bind, ko_86 hs, m_wp0 hs hN, m_wp1 hs hN, q2, q4, if_ib', m_lk hs, eq_T, eq_F, and_self, ↓reduceIte, e1]
          rw [D_X12_said_6]
          rcases (show w = 0 ∨ w = 1 ∨ w = 2 by omega) with rfl | rfl | rfl
          · simp (disch := first | assumption | decide | omega) only [lit, some_bind, gr_86_0 hs, ai_87 hs, le_F, ko_86 hs, m_lk hs, eq_T, eq_F, and_self, ↓reduceIte, main]
          · have q1' : Z (7076 + 8 * k + 5) = 0 := by omega
            simp (disch := first | assumption | decide | omega) only [lit, some_bind, gr_86_0 hs, ai_87 hs, le_F, ko_86 hs, m_lk hs, eq_T, eq_F, and_self, ↓reduceIte, nI_sub, main]
          · have q1' : Z (7076 + 8 * k + 5) = 1 := by omega
            simp (disch := first | assumption | decide | omega) only [lit, some_bind, gr_86_0 hs, ai_87 hs, le_F, ko_86 hs, m_lk hs, eq_T, eq_F, and_self, ↓reduceIte, nI_sub, main]
        · have e1 := st0 (by unfold sdv; rw [if_neg (fun x => q2 x.2.2)])
          have main : D_X12_said_45 N (D_X12_said_6 N F) (mh_w h (gz F0 Z)) 86 (nI j) (nI s) (nI w) (nI b) (nI k) = some (nI (sdm Z j s w k (m + 1) b), mh_w h (gz F0 Z)) := by
            unfold D_X12_said_45 D_X12_said_60 D_X12_said_61
            simp (disch := first | assumption | decide | omega) only [lit, some_bind, ko_86 hs, m_wp0 hs hN, q2, if_ib', m_lk hs, eq_T, eq_F, and_self, ↓reduceIte, e1]
          rw [D_X12_said_6]
          rcases (show w = 0 ∨ w = 1 ∨ w = 2 by omega) with rfl | rfl | rfl
          · simp (disch := first | assumption | decide | omega) only [lit, some_bind, gr_86_0 hs, ai_87 hs, le_F, ko_86 hs, m_lk hs, eq_T, eq_F, and_self, ↓reduceIte, main]
          · have q1' : Z (7076 + 8 * k + 5) = 0 := by omega
            simp (disch := first | assumption | decide | omega) only [lit, some_bind, gr_86_0 hs, ai_87 hs, le_F, ko_86 hs, m_lk hs, eq_T, eq_F, and_self, ↓reduceIte, nI_sub, main]
          · have q1' : Z (7076 + 8 * k + 5) = 1 := by omega
            simp (disch := first | assumption | decide | omega) only [lit, some_bind, gr_86_0 hs, ai_87 hs, le_F, ko_86 hs, m_lk hs, eq_T, eq_F, and_self, ↓reduceIte, nI_sub, main]
      · have e1 := st0 (by unfold sdv; rw [if_neg (fun x => q1 x.2.1)])
        have q1a : ¬ w = 0 := fun x => q1 (Or.inl x)
        have q1b : ¬ Z (7076 + 8 * k + 5) = w - 1 := fun x => q1 (Or.inr x)
        rw [D_X12_said_6]
        simp (disch := first | assumption | decide | omega) only [lit, some_bind, gr_86_0 hs, ai_87 hs, le_F, ko_86 hs, m_lk hs, eq_T, eq_F, and_self, ↓reduceIte, nI_sub, D_X12_said_60, D_X12_said_61, e1]
    · have e1 := st0 (by unfold sdv; rw [if_neg (fun x => q x.1)])
      rw [D_X12_said_6]
      simp (disch := first | assumption | decide | omega) only [lit, some_bind, gr_86_0 hs, ai_87 hs, le_F, ko_86 hs, m_lk hs, eq_T, eq_F, and_self, ↓reduceIte, nI_sub, D_X12_said_60, D_X12_said_61, e1]
theorem m_said (hs : Sh h) {N : Nat} (hN : 10000 ≤ N) (F0 : F2) (hB : B_all Z) {j s w : Nat} (hj : j < 16) (hsp : s < 16) (hw2 : w ≤ 2) : D_X12_said N (mh_w h (gz F0 Z)) 86 (nI j) (nI s) (nI w) = some (nI (saidZ Z j s w), mh_w h (gz F0 Z)) := by
  have c4 := hB.1.2.2.2.2.1
  unfold D_X12_said
  simp only [lit]
  rw [m_said_l hs hN F0 hB hj hsp hw2 (Z 4) N 0 0 (by omega) (by omega) (by decide)]
  rfl
theorem c_said_l (hs : Sh h) {N : Nat} (hN : 10000 ≤ N) (F0 : F2) (hw : R_world TX h G C Z 1 M) {j s w : Nat} (hj : j < 16) (hsp : s < 16) (hw2 : w ≤ 2) : ∀ (m F k b : Nat), k + m = Z 4 → m < F → b ≤ 3 → D_X1_said_6 N F (mh_w h (cz F0 C)) 16 (nI j) (nI s) (nI w) (nI b) (nI k) = some (nI (sdm Z j s w k m b), mh_w h (cz F0 C)) := by
  have c4 := hw.1.1.2.2.2.2.1
  intro m
  induction m with
  | zero =>
    intro F k b hk hF hb; obtain ⟨F, rfl⟩ : ∃ F1, F = F1 + 1 := ⟨F - 1, by omega⟩
    simp (disch := first | assumption | decide | omega) only [D_X1_said_6, w_nl hw, sdm, lit, lt64, ofI1, some_bind, if_ib', zB_ib, zBn0, zBn1, zBn, dN_n, nI_add, nI_mul, nI_md, nI_sub, nI_div, md, le_pred, lt_T, lt_F, le_T, le_F, eq_T, eq_F, ng_le, ng_lt, lt_ng, le_ng, eq_ng, max_n, min_n, and_true, true_and, and_false, false_and, and_self, if_true, if_false, ite_self, ↓reduceIte, l_within, l_isC, l_isS, bit_n, c_isJ hs, c_er hs, gr_0_0 hs, gr_0_1 hs, gr_0_2 hs, gr_0_3 hs, gr_0_4 hs, gr_0_5 hs, gr_0_6 hs, gr_0_7 hs, gr_0_8 hs, gr_0_9 hs, gr_1_3 hs, gr_1_4 hs, gr_1_5 hs, gr_1_6 hs, gr_1_7 hs, gr_1_8 hs, gr_1_9 hs, gr_1_10 hs, gr_1_11 hs, gr_1_12 hs, gr_6_3 hs, gr_6_4 hs, gr_6_5 hs, gr_6_6 hs, gr_6_7 hs, gr_6_8 hs, gr_6_9 hs, gr_6_10 hs, gr_6_11 hs, gr_16_2 hs, gr_16_3 hs, gr_16_4 hs, gr_16_5 hs, gr_16_6 hs, gr_16_7 hs, gr_23_0 hs, gr_25_0 hs, gr_27_0 hs, gr_29_0 hs, gr_32_3 hs, gr_32_4 hs, gr_32_5 hs, gr_32_6 hs, gr_32_7 hs, gr_32_8 hs, gr_32_9 hs, gr_32_10 hs, gr_32_11 hs, gr_32_12 hs, gr_37_3 hs, gr_37_4 hs, gr_37_5 hs, gr_37_6 hs, gr_37_7 hs, gr_37_8 hs, gr_37_9 hs, gr_37_10 hs, gr_37_11 hs, gr_47_2 hs, gr_47_3 hs, gr_47_4 hs, gr_47_5 hs, gr_47_6 hs, gr_47_7 hs, gr_54_0 hs, gr_56_0 hs, gr_58_0 hs, gr_60_0 hs, gr_63_3 hs, gr_63_4 hs, gr_63_5 hs, gr_63_6 hs, gr_63_7 hs, gr_63_8 hs, gr_63_9 hs, gr_63_10 hs, gr_63_11 hs, gr_73_0 hs, gr_73_1 hs, gr_73_2 hs, gr_75_0 hs, gr_79_0 hs, ko_0 hs, gi_0 hs, pi_0 hs, ko_1 hs, gi_1 hs, pi_1 hs, al_2 hs, ai_2 hs, ui_2 hs, al_3 hs, ai_3 hs, ui_3 hs, al_4 hs, ai_4 hs, ui_4 hs, ko_6 hs, gi_6 hs, pi_6 hs, al_7 hs, ai_7 hs, ui_7 hs, al_8 hs, ai_8 hs, ui_8 hs, al_9 hs, ai_9 hs, ui_9 hs, al_10 hs, ai_10 hs, ui_10 hs, al_11 hs, ai_11 hs, ui_11 hs, al_12 hs, ai_12 hs, ui_12 hs, al_13 hs, ai_13 hs, ui_13 hs, al_14 hs, ai_14 hs, ui_14 hs, al_15 hs, ai_15 hs, ui_15 hs, ko_16 hs, gi_16 hs, pi_16 hs, al_17 hs, ai_17 hs, ui_17 hs, al_18 hs, ai_18 hs, ui_18 hs, al_19 hs, ai_19 hs, ui_19 hs, al_20 hs, ai_20 hs, ui_20 hs, al_21 hs, ai_21 hs, ui_21 hs, al_22 hs, ai_22 hs, ui_22 hs, ko_23 hs, gi_23 hs, pi_23 hs, al_24 hs, ai_24 hs, ui_24 hs, ko_25 hs, gi_25 hs, pi_25 hs, al_26 hs, ai_26 hs, ui_26 hs, ko_27 hs, gi_27 hs, pi_27 hs, al_28 hs, ai_28 hs, ui_28 hs, ko_29 hs, gi_29 hs, pi_29 hs, al_30 hs, ai_30 hs, ui_30 hs, ko_31 hs, gi_31 hs, pi_31 hs, ko_32 hs, gi_32 hs, pi_32 hs, al_33 hs, ai_33 hs, ui_33 hs, al_34 hs, ai_34 hs, ui_34 hs, al_35 hs, ai_35 hs, ui_35 hs, ko_37 hs, gi_37 hs, pi_37 hs, al_38 hs, ai_38 hs, ui_38 hs, al_39 hs, ai_39 hs, ui_39 hs, al_40 hs, ai_40 hs, ui_40 hs, al_41 hs, ai_41 hs, ui_41 hs, al_42 hs, ai_42 hs, ui_42 hs, al_43 hs, ai_43 hs, ui_43 hs, al_44 hs, ai_44 hs, ui_44 hs, al_45 hs, ai_45 hs, ui_45 hs, al_46 hs, ai_46 hs, ui_46 hs, ko_47 hs, gi_47 hs, pi_47 hs, al_48 hs, ai_48 hs, ui_48 hs, al_49 hs, ai_49 hs, ui_49 hs, al_50 hs, ai_50 hs, ui_50 hs, al_51 hs, ai_51 hs, ui_51 hs, al_52 hs, ai_52 hs, ui_52 hs, al_53 hs, ai_53 hs, ui_53 hs, ko_54 hs, gi_54 hs, pi_54 hs, al_55 hs, ai_55 hs, ui_55 hs, ko_56 hs, gi_56 hs, pi_56 hs, al_57 hs, ai_57 hs, ui_57 hs, ko_58 hs, gi_58 hs, pi_58 hs, al_59 hs, ai_59 hs, ui_59 hs, ko_60 hs, gi_60 hs, pi_60 hs, al_61 hs, ai_61 hs, ui_61 hs, ko_62 hs, gi_62 hs, pi_62 hs, ko_63 hs, gi_63 hs, pi_63 hs, al_64 hs, ai_64 hs, ui_64 hs, al_65 hs, ai_65 hs, ui_65 hs, al_66 hs, ai_66 hs, ui_66 hs, al_67 hs, ai_67 hs, ui_67 hs, al_68 hs, ai_68 hs, ui_68 hs, al_69 hs, ai_69 hs, ui_69 hs, al_70 hs, ai_70 hs, ui_70 hs, al_71 hs, ai_71 hs, ui_71 hs, al_72 hs, ai_72 hs, ui_72 hs, ko_73 hs, gi_73 hs, pi_73 hs, al_74 hs, ai_74 hs, ui_74 hs, ko_75 hs, gi_75 hs, pi_75 hs, al_76 hs, ai_76 hs, ui_76 hs, al_77 hs, ai_77 hs, ui_77 hs, al_78 hs, ai_78 hs, ui_78 hs, ko_79 hs, gi_79 hs, pi_79 hs, al_80 hs, ai_80 hs, ui_80 hs, al_81 hs, ai_81 hs, ui_81 hs, al_82 hs, ai_82 hs, ui_82 hs, al_83 hs, ai_83 hs, ui_83 hs, al_84 hs, ai_84 hs, ui_84 hs, al_85 hs, ai_85 hs, ui_85 hs]
  | succ m ih =>
    intro F k b hk hF hb
    obtain ⟨F, rfl⟩ : ∃ F1, F = F1 + 1 := ⟨F - 1, by omega⟩
    have hk4 : k < Z 4 := by omega
    obtain ⟨b0, bs, b1, -, -, b4, b5, b6, b7⟩ := lk_b hw.1 hk4
    have hlt := holesZ_lt hw.1 (Z (7076 + 8 * k + 1)) _ b6
    have h2j : 2 ^ j < 2 ^ 16 := Nat.pow_lt_pow_right (by decide) hj
    have st : ∀ v, v ≤ 3 → sdv Z j s w k = v → D_X1_said_101 N (D_X1_said_6 N F) (mh_w h (cz F0 C)) 16 (nI j) (nI s) (nI w) (nI k) (nI b) (nI v) = some (nI (sdm Z j s w k (m + 1) b), mh_w h (cz F0 C)) := by
      intro v hv e
      simp (disch := first | assumption | decide | omega) only [D_X1_said_106, D_X1_said_101, D_X1_said_74, D_X1_said_37, D_X1_said_32, D_X1_said, sdm, ih, lit, lt64, ofI1, some_bind, if_ib', zB_ib, zBn0, zBn1, zBn, dN_n, nI_add, nI_mul, nI_md, nI_sub, nI_div, md, le_pred, lt_T, lt_F, le_T, le_F, eq_T, eq_F, ng_le, ng_lt, lt_ng, le_ng, eq_ng, max_n, min_n, and_true, true_and, and_false, false_and, and_self, if_true, if_false, ite_self, ↓reduceIte, l_within, l_isC, l_isS, bit_n, c_isJ hs, c_er hs, gr_0_0 hs, gr_0_1 hs, gr_0_2 hs, gr_0_3 hs, gr_0_4 hs, gr_0_5 hs, gr_0_6 hs, gr_0_7 hs, gr_0_8 hs, gr_0_9 hs, gr_1_3 hs, gr_1_4 hs, gr_1_5 hs, gr_1_6 hs, gr_1_7 hs, gr_1_8 hs, gr_1_9 hs, gr_1_10 hs, gr_1_11 hs, gr_1_12 hs, gr_6_3 hs, gr_6_4 hs, gr_6_5 hs, gr_6_6 hs, gr_6_7 hs, gr_6_8 hs, gr_6_9 hs, gr_6_10 hs, gr_6_11 hs, gr_16_2 hs, gr_16_3 hs, gr_16_4 hs, gr_16_5 hs, gr_16_6 hs, gr_16_7 hs, gr_23_0 hs, gr_25_0 hs, gr_27_0 hs, gr_29_0 hs, gr_32_3 hs, gr_32_4 hs, gr_32_5 hs, gr_32_6 hs, gr_32_7 hs, gr_32_8 hs, gr_32_9 hs, gr_32_10 hs, gr_32_11 hs, gr_32_12 hs, gr_37_3 hs, gr_37_4 hs, gr_37_5 hs, gr_37_6 hs, gr_37_7 hs, gr_37_8 hs, gr_37_9 hs, gr_37_10 hs, gr_37_11 hs, gr_47_2 hs, gr_47_3 hs, gr_47_4 hs, gr_47_5 hs, gr_47_6 hs, gr_47_7 hs, gr_54_0 hs, gr_56_0 hs, gr_58_0 hs, gr_60_0 hs, gr_63_3 hs, gr_63_4 hs, gr_63_5 hs, gr_63_6 hs, gr_63_7 hs, gr_63_8 hs, gr_63_9 hs, gr_63_10 hs, gr_63_11 hs, gr_73_0 hs, gr_73_1 hs, gr_73_2 hs, gr_75_0 hs, gr_79_0 hs, ko_0 hs, gi_0 hs, pi_0 hs, ko_1 hs, gi_1 hs, pi_1 hs, al_2 hs, ai_2 hs, ui_2 hs, al_3 hs, ai_3 hs, ui_3 hs, al_4 hs, ai_4 hs, ui_4 hs, ko_6 hs, gi_6 hs, pi_6 hs, al_7 hs, ai_7 hs, ui_7 hs, al_8 hs, ai_8 hs, ui_8 hs, al_9 hs, ai_9 hs, ui_9 hs, al_10 hs, ai_10 hs, ui_10 hs, al_11 hs, ai_11 hs, ui_11 hs, al_12 hs, ai_12 hs, ui_12 hs, al_13 hs, ai_13 hs, ui_13 hs, al_14 hs, ai_14 hs, ui_14 hs, al_15 hs, ai_15 hs, ui_15 hs, ko_16 hs, gi_16 hs, pi_16 hs, al_17 hs, ai_17 hs, ui_17 hs, al_18 hs, ai_18 hs, ui_18 hs, al_19 hs, ai_19 hs, ui_19 hs, al_20 hs, ai_20 hs, ui_20 hs, al_21 hs, ai_21 hs, ui_21 hs, al_22 hs, ai_22 hs, ui_22 hs, ko_23 hs, gi_23 hs, pi_23 hs, al_24 hs, ai_24 hs, ui_24 hs, ko_25 hs, gi_25 hs, pi_25 hs, al_26 hs, ai_26 hs, ui_26 hs, ko_27 hs, gi_27 hs, pi_27 hs, al_28 hs, ai_28 hs, ui_28 hs, ko_29 hs, gi_29 hs, pi_29 hs, al_30 hs, ai_30 hs, ui_30 hs, ko_31 hs, gi_31 hs, pi_31 hs, ko_32 hs, gi_32 hs, pi_32 hs, al_33 hs, ai_33 hs, ui_33 hs, al_34 hs, ai_34 hs, ui_34 hs, al_35 hs, ai_35 hs, ui_35 hs, ko_37 hs, gi_37 hs, pi_37 hs, al_38 hs, ai_38 hs, ui_38 hs, al_39 hs, ai_39 hs, ui_39 hs, al_40 hs, ai_40 hs, ui_40 hs, al_41 hs, ai_41 hs, ui_41 hs, al_42 hs, ai_42 hs, ui_42 hs, al_43 hs, ai_43 hs, ui_43 hs, al_44 hs, ai_44 hs, ui_44 hs, al_45 hs, ai_45 hs, ui_45 hs, al_46 hs, ai_46 hs, ui_46 hs, ko_47 hs, gi_47 hs, pi_47 hs, al_48 hs, ai_48 hs, ui_48 hs, al_49 hs, ai_49 hs, ui_49 hs, al_50 hs, ai_50 hs, ui_50 hs, al_51 hs, ai_51 hs, ui_51 hs, al_52 hs, ai_52 hs, ui_52 hs, al_53 hs, ai_53 hs, ui_53 hs, ko_54 hs, gi_54 hs, pi_54 hs, al_55 hs, ai_55 hs, ui_55 hs, ko_56 hs, gi_56 hs, pi_56 hs, al_57 hs, ai_57 hs, ui_57 hs, ko_58 hs, gi_58 hs, pi_58 hs, al_59 hs, ai_59 hs, ui_59 hs, ko_60 hs, gi_60 hs, pi_60 hs, al_61 hs, ai_61 hs, ui_61 hs, ko_62 hs, gi_62 hs, pi_62 hs, ko_63 hs, gi_63 hs, pi_63 hs, al_64 hs, ai_64 hs, ui_64 hs, al_65 hs, ai_65 hs, ui_65 hs, al_66 hs, ai_66 hs, ui_66 hs, al_67 hs, ai_67 hs, ui_67 hs, al_68 hs, ai_68 hs, ui_68 hs, al_69 hs, ai_69 hs, ui_69 hs, al_70 hs, ai_70 hs, ui_70 hs, al_71 hs, ai_71 hs, ui_71 hs, al_72 hs, ai_72 hs, ui_72 hs, ko_73 hs, gi_73 hs, pi_73 hs, al_74 hs, ai_74 hs, ui_74 hs, ko_75 hs, gi_75 hs, pi_75 hs, al_76 hs, ai_76 hs, ui_76 hs, al_77 hs, ai_77 hs, ui_77 hs, al_78 hs, ai_78 hs, ui_78 hs, ko_79 hs, gi_79 hs, pi_79 hs, al_80 hs, ai_80 hs, ui_80 hs, al_81 hs, ai_81 hs, ui_81 hs, al_82 hs, ai_82 hs, ui_82 hs, al_83 hs, ai_83 hs, ui_83 hs, al_84 hs, ai_84 hs, ui_84 hs, al_85 hs, ai_85 hs, ui_85 hs]
      rw [e]
    have s106 : sdv Z j s w k = 0 → D_X1_said_106 N (D_X1_said_6 N F) (mh_w h (cz F0 C)) 16 (nI j) (nI s) (nI w) (nI b) (nI k) = some (nI (sdm Z j s w k (m + 1) b), mh_w h (cz F0 C)) := by
      intro e
      simp (disch := first | assumption | decide | omega) only [D_X1_said_106, D_X1_said_101, D_X1_said_74, D_X1_said_37, D_X1_said_32, D_X1_said, sdm, ih, lit, lt64, ofI1, some_bind, if_ib', zB_ib, zBn0, zBn1, zBn, dN_n, nI_add, nI_mul, nI_md, nI_sub, nI_div, md, le_pred, lt_T, lt_F, le_T, le_F, eq_T, eq_F, ng_le, ng_lt, lt_ng, le_ng, eq_ng, max_n, min_n, and_true, true_and, and_false, false_and, and_self, if_true, if_false, ite_self, ↓reduceIte, l_within, l_isC, l_isS, bit_n, c_isJ hs, c_er hs, gr_0_0 hs, gr_0_1 hs, gr_0_2 hs, gr_0_3 hs, gr_0_4 hs, gr_0_5 hs, gr_0_6 hs, gr_0_7 hs, gr_0_8 hs, gr_0_9 hs, gr_1_3 hs, gr_1_4 hs, gr_1_5 hs, gr_1_6 hs, gr_1_7 hs, gr_1_8 hs, gr_1_9 hs, gr_1_10 hs, gr_1_11 hs, gr_1_12 hs, gr_6_3 hs, gr_6_4 hs, gr_6_5 hs, gr_6_6 hs, gr_6_7 hs, gr_6_8 hs, gr_6_9 hs, gr_6_10 hs, gr_6_11 hs, gr_16_2 hs, gr_16_3 hs, gr_16_4 hs, gr_16_5 hs, gr_16_6 hs, gr_16_7 hs, gr_23_0 hs, gr_25_0 hs, gr_27_0 hs, gr_29_0 hs, gr_32_3 hs, gr_32_4 hs, gr_32_5 hs, gr_32_6 hs, gr_32_7 hs, gr_32_8 hs, gr_32_9 hs, gr_32_10 hs, gr_32_11 hs, gr_32_12 hs, gr_37_3 hs, gr_37_4 hs, gr_37_5 hs, gr_37_6 hs, gr_37_7 hs, gr_37_8 hs, gr_37_9 hs, gr_37_10 hs, gr_37_11 hs, gr_47_2 hs, gr_47_3 hs, gr_47_4 hs, gr_47_5 hs, gr_47_6 hs, gr_47_7 hs, gr_54_0 hs, gr_56_0 hs, gr_58_0 hs, gr_60_0 hs, gr_63_3 hs, gr_63_4 hs, gr_63_5 hs, gr_63_6 hs, gr_63_7 hs, gr_63_8 hs, gr_63_9 hs, gr_63_10 hs, gr_63_11 hs, gr_73_0 hs, gr_73_1 hs, gr_73_2 hs, gr_75_0 hs, gr_79_0 hs, ko_0 hs, gi_0 hs, pi_0 hs, ko_1 hs, gi_1 hs, pi_1 hs, al_2 hs, ai_2 hs, ui_2 hs, al_3 hs, ai_3 hs, ui_3 hs, al_4 hs, ai_4 hs, ui_4 hs, ko_6 hs, gi_6 hs, pi_6 hs, al_7 hs, ai_7 hs, ui_7 hs, al_8 hs, ai_8 hs, ui_8 hs, al_9 hs, ai_9 hs, ui_9 hs, al_10 hs, ai_10 hs, ui_10 hs, al_11 hs, ai_11 hs, ui_11 hs, al_12 hs, ai_12 hs, ui_12 hs, al_13 hs, ai_13 hs, ui_13 hs, al_14 hs, ai_14 hs, ui_14 hs, al_15 hs, ai_15 hs, ui_15 hs, ko_16 hs, gi_16 hs, pi_16 hs, al_17 hs, ai_17 hs, ui_17 hs, al_18 hs, ai_18 hs, ui_18 hs, al_19 hs, ai_19 hs, ui_19 hs, al_20 hs, ai_20 hs, ui_20 hs, al_21 hs, ai_21 hs, ui_21 hs, al_22 hs, ai_22 hs, ui_22 hs, ko_23 hs, gi_23 hs, pi_23 hs, al_24 hs, ai_24 hs, ui_24 hs, ko_25 hs, gi_25 hs, pi_25 hs, al_26 hs, ai_26 hs, ui_26 hs, ko_27 hs, gi_27 hs, pi_27 hs, al_28 hs, ai_28 hs, ui_28 hs, ko_29 hs, gi_29 hs, pi_29 hs, al_30 hs, ai_30 hs, ui_30 hs, ko_31 hs, gi_31 hs, pi_31 hs, ko_32 hs, gi_32 hs, pi_32 hs, al_33 hs, ai_33 hs, ui_33 hs, al_34 hs, ai_34 hs, ui_34 hs, al_35 hs, ai_35 hs, ui_35 hs, ko_37 hs, gi_37 hs, pi_37 hs, al_38 hs, ai_38 hs, ui_38 hs, al_39 hs, ai_39 hs, ui_39 hs, al_40 hs, ai_40 hs, ui_40 hs, al_41 hs, ai_41 hs, ui_41 hs, al_42 hs, ai_42 hs, ui_42 hs, al_43 hs, ai_43 hs, ui_43 hs, al_44 hs, ai_44 hs, ui_44 hs, al_45 hs, ai_45 hs, ui_45 hs, al_46 hs, ai_46 hs, ui_46 hs, ko_47 hs, gi_47 hs, pi_47 hs, al_48 hs, ai_48 hs, ui_48 hs, al_49 hs, ai_49 hs, ui_49 hs, al_50 hs, ai_50 hs, ui_50 hs, al_51 hs, ai_51 hs, ui_51 hs, al_52 hs, ai_52 hs, ui_52 hs, al_53 hs, ai_53 hs, ui_53 hs, ko_54 hs, gi_54 hs, pi_54 hs, al_55 hs, ai_55 hs, ui_55 hs, ko_56 hs, gi_56 hs, pi_56 hs, al_57 hs, ai_57 hs, ui_57 hs, ko_58 hs, gi_58 hs, pi_58 hs, al_59 hs, ai_59 hs, ui_59 hs, ko_60 hs, gi_60 hs, pi_60 hs, al_61 hs, ai_61 hs, ui_61 hs, ko_62 hs, gi_62 hs, pi_62 hs, ko_63 hs, gi_63 hs, pi_63 hs, al_64 hs, ai_64 hs, ui_64 hs, al_65 hs, ai_65 hs, ui_65 hs, al_66 hs, ai_66 hs, ui_66 hs, al_67 hs, ai_67 hs, ui_67 hs, al_68 hs, ai_68 hs, ui_68 hs, al_69 hs, ai_69 hs, ui_69 hs, al_70 hs, ai_70 hs, ui_70 hs, al_71 hs, ai_71 hs, ui_71 hs, al_72 hs, ai_72 hs, ui_72 hs, ko_73 hs, gi_73 hs, pi_73 hs, al_74 hs, ai_74 hs, ui_74 hs, ko_75 hs, gi_75 hs, pi_75 hs, al_76 hs, ai_76 hs, ui_76 hs, al_77 hs, ai_77 hs, ui_77 hs, al_78 hs, ai_78 hs, ui_78 hs, ko_79 hs, gi_79 hs, pi_79 hs, al_80 hs, ai_80 hs, ui_80 hs, al_81 hs, ai_81 hs, ui_81 hs, al_82 hs, ai_82 hs, ui_82 hs, al_83 hs, ai_83 hs, ui_83 hs, al_84 hs, ai_84 hs, ui_84 hs, al_85 hs, ai_85 hs, ui_85 hs]
      rw [e, Nat.max_eq_left (by omega)]
    have st1 := st 1 (by decide)
    have st2 := st 2 (by decide)
    have st3 := st 3 (by decide)
    clear st ih
    have s37 : (w = 0 ∨ Z (7076 + 8 * k + 5) = w - 1) → D_X1_said_37 N (D_X1_said_6 N F) (mh_w h (cz F0 C)) 16 (nI j) (nI s) (nI w) (nI b) (nI k) (nI 1) = some (nI (sdm Z j s w k (m + 1) b), mh_w h (cz F0 C)) := by
      intro q1
      by_cases q : Z (7076 + 8 * k + 0) = s ∧ PUT Z (Z (7076 + 8 * k + 1)) j (Z (7076 + 8 * k + 6))
      · have hp := (show Z (7076 + 8 * k + 0) = s ∧ (w = 0 ∨ Z (7076 + 8 * k + 5) = w - 1) ∧ PUT Z (Z (7076 + 8 * k + 1)) j (Z (7076 + 8 * k + 6)) from ⟨q.1, q1, q.2⟩)
        have hone := holesZ_one q.2
        by_cases q3 : Z (7076 + 8 * k + 4) = 1
        · have n0 : ¬ Z (7076 + 8 * k + 4) = 0 := by omega
          by_cases q4 : OTH Z (Z (7076 + 8 * k + 1)) j (Z (7076 + 8 * k + 6))
          · have e1 := st2 (by unfold sdv; rw [if_pos hp, if_neg n0, if_pos q4])
            have e2 : ¬ holesZ Z (Z (7076 + 8 * k + 1)) (Z (7076 + 8 * k + 6)) = 2 ^ j := fun x => hone.mp x q4
            unfold D_X1_said_37 D_X1_said_74
            simp (disch := first | assumption | decide | omega) only [lit, some_bind, ko_16 hs, c_about hs N F0 hw, q, c_lk hs, w_lh' hw, shl_n, c_saw hs N F0 hw, q3, if_ib', eq_T, eq_F, and_self, ↓reduceIte, e1]
          · have e1 := st3 (by unfold sdv; rw [if_pos hp, if_neg n0, if_neg q4])
            have e2 : holesZ Z (Z (7076 + 8 * k + 1)) (Z (7076 + 8 * k + 6)) = 2 ^ j := hone.mpr q4
            unfold D_X1_said_37 D_X1_said_74
            simp (disch := first | assumption | decide | omega) only [lit, some_bind, ko_16 hs, c_about hs N F0 hw, q, c_lk hs, w_lh' hw, shl_n, c_saw hs N F0 hw, q3, if_ib', eq_T, eq_F, and_self, ↓reduceIte, e1]
        · have e1 := st1 (by unfold sdv; rw [if_pos hp, if_pos (show Z (7076 + 8 * k + 4) = 0 by omega)])
          unfold D_X1_said_37 D_X1_said_74
          simp (disch := first | assumption | decide | omega) only [lit, some_bind, ko_16 hs, c_about hs N F0 hw, q, c_lk hs, w_lh' hw, shl_n, c_saw hs N F0 hw, q3, if_ib', eq_T, eq_F, and_self, ↓reduceIte, e1, ite_self]
      · have e1 := s106 (by unfold sdv; rw [if_neg (fun x => q ⟨x.1, x.2.2⟩)])
        unfold D_X1_said_37
        simp (disch := first | assumption | decide | omega) only [lit, some_bind, ko_16 hs, c_about hs N F0 hw, q, if_ib', eq_T, eq_F, and_self, ↓reduceIte, e1]
    rw [D_X1_said_6]
    rcases (show w = 0 ∨ w = 1 ∨ w = 2 by omega) with rfl | rfl | rfl
    · have e37 := s37 (Or.inl rfl)
      simp (disch := first | assumption | decide | omega) only [lit, some_bind, gi_16 hs, w_nl hw, le_F, ko_16 hs, c_lk hs, w_look hw, eq_T, eq_F, and_self, ↓reduceIte, nI_sub, D_X1_said_32, e37]
    · by_cases q5 : Z (7076 + 8 * k + 5) = 0
      · have e37 := s37 (Or.inr q5)
        simp (disch := first | assumption | decide | omega) only [lit, some_bind, gi_16 hs, w_nl hw, le_F, ko_16 hs, c_lk hs, w_look hw, eq_T, eq_F, and_self, ↓reduceIte, nI_sub, D_X1_said_32, e37]
      · have e1 := s106 (by unfold sdv; rw [if_neg (fun x => by omega)])
        simp (disch := first | assumption | decide | omega) only [lit, some_bind, gi_16 hs, w_nl hw, le_F, ko_16 hs, c_lk hs, w_look hw, eq_T, eq_F, and_self, ↓reduceIte, nI_sub, D_X1_said_37, e1]
    · by_cases q5 : Z (7076 + 8 * k + 5) = 1
      · have e37 := s37 (Or.inr q5)
        simp (disch := first | assumption | decide | omega) only [lit, some_bind, gi_16 hs, w_nl hw, le_F, ko_16 hs, c_lk hs, w_look hw, eq_T, eq_F, and_self, ↓reduceIte, nI_sub, D_X1_said_32, e37]
      · have e1 := s106 (by unfold sdv; rw [if_neg (fun x => by omega)])
        simp (disch := first | assumption | decide | omega) only [lit, some_bind, gi_16 hs, w_nl hw, le_F, ko_16 hs, c_lk hs, w_look hw, eq_T, eq_F, and_self, ↓reduceIte, nI_sub, D_X1_said_37, e1]
theorem c_said (hs : Sh h) {N : Nat} (hN : 10000 ≤ N) (F0 : F2) (hw : R_world TX h G C Z 1 M) {j s w : Nat} (hj : j < 16) (hsp : s < 16) (hw2 : w ≤ 2) : D_X1_said N (mh_w h (cz F0 C)) 16 (nI j) (nI s) (nI w) = some (nI (saidZ Z j s w), mh_w h (cz F0 C)) := by
  have c4 := hw.1.1.2.2.2.2.1
  unfold D_X1_said
  simp only [lit]
  rw [c_said_l hs hN F0 hw hj hsp hw2 (Z 4) N 0 0 (by omega) (by omega) (by decide)]
  rfl
end LOOKS
