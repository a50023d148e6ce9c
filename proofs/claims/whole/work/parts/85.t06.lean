/-! the reference's term, sum, test, reads -/
section T06
variable {h : mh_H} {F : F2} {Z : Z1} {T L : List Nat} {u N p f o : Nat} {g : Option (Nat → RR)} {kB : mh_H → Nat → Option mh_H}
theorem KBm.gd (hk : KBm h F Z T kB o g) : ∀ f, g = some f → GD T f := fun f e => by
  rcases hk with ⟨_, q⟩ | ⟨_, f', q, gd, _⟩
  · rw [q] at e; cases e
  · rw [q] at e; cases e; exact gd
theorem m_tmL (hs : Sh h) (hM : MT F Z T u) (hN : 10000 ≤ N) (hk : KBm h F Z T kB o g) : ∀ m Fu (r : RR) L, m < Fu → r.1 ≤ T.length → T.length ≤ r.1 + m → r.2.1 ≤ 1 → (L ++ r.2.2).length ≤ r.1 → MD h F Z o L (pLp T opT (pOne T u g) m r) (D_X12_term_4 N kB Fu (mh_w h (gz (rs F r.1 o r.2.1 (L ++ r.2.2)) Z)) 86) := by
  have h60 := hM.2.1.1
  have gd := pOne_gd (u := u) hk.gd
  have stop : ∀ (r : RR) L Fu, r.1 ≤ T.length → r.2.1 ≤ 1 → (r.2.1 = 0 → chL T r.1 ≠ 42 ∧ chL T r.1 ≠ 47) → D_X12_term_4 N kB (Fu + 1) (mh_w h (gz (rs F r.1 o r.2.1 (L ++ r.2.2)) Z)) 86 = some (mh_w h (gz (rs F r.1 o r.2.1 (L ++ r.2.2)) Z)) := fun r L Fu r1 r2 hne => by
    obtain ⟨x, h1, h2⟩ := m_hereX (L := L ++ r.2.2) (o := o) hs hM N r1 r2
    have h3 := h2 42 (by decide) (fun e => (hne e).1)
    have h4 := h2 47 (by decide) (fun e => (hne e).2)
    rw [D_X12_term_4]
    simp (disch := first | assumption | decide | omega) only [h1, h3, h4, lit, lt64, ofI1, some_bind, if_ib', zB_ib, zBn0, zBn1, zBn, dN_n, nI_add, nI_mul, nI_md, nI_sub, nI_div, md, le_pred, lt_T, lt_F, le_T, le_F, eq_T, eq_F, ng_le, ng_lt, lt_ng, le_ng, eq_ng, max_n, min_n, and_true, true_and, and_false, false_and, and_self, if_true, if_false, ite_self, ↓reduceIte, m_in32, m_isC, m_isS, m_isJ hs, m_jnt, m_er hs, gr_86_0 hs, gr_86_1 hs, gr_86_2 hs, gr_86_4 hs, gr_86_5 hs, gr_86_6 hs, gr_86_7 hs, gr_86_8 hs, gr_86_15 hs, gr_86_16 hs, gr_86_17 hs, gr_86_18 hs, gr_86_19 hs, gr_86_20 hs, gr_86_21 hs, gr_86_27 hs, gr_86_28 hs, gr_86_29 hs, ko_86 hs, gi_86 hs, pi_86 hs, al_87 hs, ai_87 hs, ui_87 hs, al_88 hs, ai_88 hs, ui_88 hs, al_89 hs, ai_89 hs, ui_89 hs, al_90 hs, ai_90 hs, ui_90 hs, al_91 hs, ai_91 hs, ui_91 hs, al_92 hs, ai_92 hs, ui_92 hs, al_93 hs, ai_93 hs, ui_93 hs, al_94 hs, ai_94 hs, ui_94 hs, al_95 hs, ai_95 hs, ui_95 hs, al_96 hs, ai_96 hs, ui_96 hs, al_97 hs, ai_97 hs, ui_97 hs, al_98 hs, ai_98 hs, ui_98 hs, al_99 hs, ai_99 hs, ui_99 hs, al_100 hs, ai_100 hs, ui_100 hs, al_101 hs, ai_101 hs, ui_101 hs, al_102 hs, ai_102 hs, ui_102 hs, al_103 hs, ai_103 hs, ui_103 hs, al_104 hs, ai_104 hs, ui_104 hs]
  intro m
  induction m with
  | zero =>
    intro Fu r L hF r1 r3 r2 hL
    obtain ⟨Fu, rfl⟩ : ∃ F1, Fu = F1 + 1 := ⟨Fu - 1, by omega⟩
    exact stop r L Fu r1 r2 (fun _ => by rw [chL_end (by omega)]; decide)
  | succ m ih =>
    intro Fu r L hF r1 r3 r2 hL
    obtain ⟨Fu, rfl⟩ : ∃ F1, Fu = F1 + 1 := ⟨Fu - 1, by omega⟩
    rw [pLp]
    by_cases q : r.2.1 = 0 ∧ opT (chL T r.1) < 9
    · rw [if_pos q]
      have q1 := q.1
      have hl := chL_lt (op_lt.1 q.2)
      obtain ⟨s1, s2, s3, s4⟩ := gd (r.1 + 1) (by omega)
      have e1 := m_one (L := L ++ r.2.2) hs hM hN hk (p := r.1 + 1) (by omega) (by omega)
      unfold MD at e1
      have go : ∀ k, k = opT (chL T r.1) → D_X12_term_36 N kB (D_X12_term_4 N kB Fu) (mh_w h (gz (rs F r.1 o 0 (L ++ r.2.2)) Z)) 86 (nI k) = D_X12_term_4 N kB Fu (mh_w h (gz (rs F (pLn r (pOne T u g (r.1 + 1)) k).1 o (pLn r (pOne T u g (r.1 + 1)) k).2.1 (L ++ (pLn r (pOne T u g (r.1 + 1)) k).2.2)) Z)) 86 := fun k ek => by
        generalize pOne T u g (r.1 + 1) = s at *
        unfold D_X12_term_36 pLn
        rw [List.length_append] at hL
        by_cases qs : s.2.1 = 0
        · have pt := mt_puts (F := F) (Z := Z) (p := s.1) (o := o) (L := L ++ r.2.2 ++ s.2.2) (c := 2000 + k) hs N (by rw [List.length_append, List.length_append]; omega)
          have ea : L ++ (r.2.2 ++ s.2.2 ++ [2000 + k]) = L ++ r.2.2 ++ s.2.2 ++ [2000 + k] := by rw [← List.append_assoc, ← List.append_assoc]
          rw [qs] at e1
          simp (disch := first | assumption | decide | omega) only [rs_11, rs_u11, e1, pt, qs, ea, lit, lt64, ofI1, some_bind, if_ib', zB_ib, zBn0, zBn1, zBn, dN_n, nI_add, nI_mul, nI_md, nI_sub, nI_div, md, le_pred, lt_T, lt_F, le_T, le_F, eq_T, eq_F, ng_le, ng_lt, lt_ng, le_ng, eq_ng, max_n, min_n, and_true, true_and, and_false, false_and, and_self, if_true, if_false, ite_self, ↓reduceIte, m_in32, m_isC, m_isS, m_isJ hs, m_jnt, m_er hs, gr_86_0 hs, gr_86_1 hs, gr_86_2 hs, gr_86_4 hs, gr_86_5 hs, gr_86_6 hs, gr_86_7 hs, gr_86_8 hs, gr_86_15 hs, gr_86_16 hs, gr_86_17 hs, gr_86_18 hs, gr_86_19 hs, gr_86_20 hs, gr_86_21 hs, gr_86_27 hs, gr_86_28 hs, gr_86_29 hs, ko_86 hs, gi_86 hs, pi_86 hs, al_87 hs, ai_87 hs, ui_87 hs, al_88 hs, ai_88 hs, ui_88 hs, al_89 hs, ai_89 hs, ui_89 hs, al_90 hs, ai_90 hs, ui_90 hs, al_91 hs, ai_91 hs, ui_91 hs, al_92 hs, ai_92 hs, ui_92 hs, al_93 hs, ai_93 hs, ui_93 hs, al_94 hs, ai_94 hs, ui_94 hs, al_95 hs, ai_95 hs, ui_95 hs, al_96 hs, ai_96 hs, ui_96 hs, al_97 hs, ai_97 hs, ui_97 hs, al_98 hs, ai_98 hs, ui_98 hs, al_99 hs, ai_99 hs, ui_99 hs, al_100 hs, ai_100 hs, ui_100 hs, al_101 hs, ai_101 hs, ui_101 hs, al_102 hs, ai_102 hs, ui_102 hs, al_103 hs, ai_103 hs, ui_103 hs, al_104 hs, ai_104 hs, ui_104 hs]
        · have qs1 : s.2.1 = 1 := by omega
          have pt := mt_putsF (F := F) (Z := Z) (p := s.1) (o := o) (L := L ++ r.2.2 ++ s.2.2) (c := 2000 + k) hs N
          have ea : L ++ (r.2.2 ++ s.2.2 ++ []) = L ++ r.2.2 ++ s.2.2 := by rw [List.append_nil, ← List.append_assoc]
          have q10 : ¬ (1 : Nat) = 0 := by decide
          rw [qs1] at e1
          simp (disch := first | assumption | decide | omega) only [rs_11, rs_u11, e1, pt, qs1, q10, ea, lit, lt64, ofI1, some_bind, if_ib', zB_ib, zBn0, zBn1, zBn, dN_n, nI_add, nI_mul, nI_md, nI_sub, nI_div, md, le_pred, lt_T, lt_F, le_T, le_F, eq_T, eq_F, ng_le, ng_lt, lt_ng, le_ng, eq_ng, max_n, min_n, and_true, true_and, and_false, false_and, and_self, if_true, if_false, ite_self, ↓reduceIte, m_in32, m_isC, m_isS, m_isJ hs, m_jnt, m_er hs, gr_86_0 hs, gr_86_1 hs, gr_86_2 hs, gr_86_4 hs, gr_86_5 hs, gr_86_6 hs, gr_86_7 hs, gr_86_8 hs, gr_86_15 hs, gr_86_16 hs, gr_86_17 hs, gr_86_18 hs, gr_86_19 hs, gr_86_20 hs, gr_86_21 hs, gr_86_27 hs, gr_86_28 hs, gr_86_29 hs, ko_86 hs, gi_86 hs, pi_86 hs, al_87 hs, ai_87 hs, ui_87 hs, al_88 hs, ai_88 hs, ui_88 hs, al_89 hs, ai_89 hs, ui_89 hs, al_90 hs, ai_90 hs, ui_90 hs, al_91 hs, ai_91 hs, ui_91 hs, al_92 hs, ai_92 hs, ui_92 hs, al_93 hs, ai_93 hs, ui_93 hs, al_94 hs, ai_94 hs, ui_94 hs, al_95 hs, ai_95 hs, ui_95 hs, al_96 hs, ai_96 hs, ui_96 hs, al_97 hs, ai_97 hs, ui_97 hs, al_98 hs, ai_98 hs, ui_98 hs, al_99 hs, ai_99 hs, ui_99 hs, al_100 hs, ai_100 hs, ui_100 hs, al_101 hs, ai_101 hs, ui_101 hs, al_102 hs, ai_102 hs, ui_102 hs, al_103 hs, ai_103 hs, ui_103 hs, al_104 hs, ai_104 hs, ui_104 hs]
      rw [List.length_append] at hL
      obtain ⟨b1, b2, b3, b4⟩ := pLn_b (o := opT (chL T r.1)) (p := L.length) r1 (by omega) s1 s2 s3 s4 (by omega)
      have ih' := ih Fu (pLn r (pOne T u g (r.1 + 1)) (opT (chL T r.1))) L (by omega) b2 (by show T.length ≤ (pOne T u g (r.1 + 1)).1 + m; omega) b3 (by rw [List.length_append]; omega)
      unfold MD at ih' ⊢
      refine Eq.trans ?_ ih'
      rw [q1, D_X12_term_4]
      rcases opT_c q.2 with ⟨qc, qo⟩ | ⟨qc, qo⟩
      · have g1 := go 2 qo.symm
        have hh := m_hereT (L := L ++ r.2.2) (o := o) hs hM N r1 qc (by decide)
        rw [qo]
        simp (disch := first | assumption | decide | omega) only [D_X12_term_22, hh, g1, lit, lt64, ofI1, some_bind, if_ib', zB_ib, zBn0, zBn1, zBn, dN_n, nI_add, nI_mul, nI_md, nI_sub, nI_div, md, le_pred, lt_T, lt_F, le_T, le_F, eq_T, eq_F, ng_le, ng_lt, lt_ng, le_ng, eq_ng, max_n, min_n, and_true, true_and, and_false, false_and, and_self, if_true, if_false, ite_self, ↓reduceIte, m_in32, m_isC, m_isS, m_isJ hs, m_jnt, m_er hs, gr_86_0 hs, gr_86_1 hs, gr_86_2 hs, gr_86_4 hs, gr_86_5 hs, gr_86_6 hs, gr_86_7 hs, gr_86_8 hs, gr_86_15 hs, gr_86_16 hs, gr_86_17 hs, gr_86_18 hs, gr_86_19 hs, gr_86_20 hs, gr_86_21 hs, gr_86_27 hs, gr_86_28 hs, gr_86_29 hs, ko_86 hs, gi_86 hs, pi_86 hs, al_87 hs, ai_87 hs, ui_87 hs, al_88 hs, ai_88 hs, ui_88 hs, al_89 hs, ai_89 hs, ui_89 hs, al_90 hs, ai_90 hs, ui_90 hs, al_91 hs, ai_91 hs, ui_91 hs, al_92 hs, ai_92 hs, ui_92 hs, al_93 hs, ai_93 hs, ui_93 hs, al_94 hs, ai_94 hs, ui_94 hs, al_95 hs, ai_95 hs, ui_95 hs, al_96 hs, ai_96 hs, ui_96 hs, al_97 hs, ai_97 hs, ui_97 hs, al_98 hs, ai_98 hs, ui_98 hs, al_99 hs, ai_99 hs, ui_99 hs, al_100 hs, ai_100 hs, ui_100 hs, al_101 hs, ai_101 hs, ui_101 hs, al_102 hs, ai_102 hs, ui_102 hs, al_103 hs, ai_103 hs, ui_103 hs, al_104 hs, ai_104 hs, ui_104 hs]
      · have g1 := go 3 qo.symm
        have hh := m_hereT (L := L ++ r.2.2) (o := o) hs hM N r1 qc (by decide)
        rw [qo]
        simp (disch := first | assumption | decide | omega) only [D_X12_term_22, hh, g1, lit, lt64, ofI1, some_bind, if_ib', zB_ib, zBn0, zBn1, zBn, dN_n, nI_add, nI_mul, nI_md, nI_sub, nI_div, md, le_pred, lt_T, lt_F, le_T, le_F, eq_T, eq_F, ng_le, ng_lt, lt_ng, le_ng, eq_ng, max_n, min_n, and_true, true_and, and_false, false_and, and_self, if_true, if_false, ite_self, ↓reduceIte, m_in32, m_isC, m_isS, m_isJ hs, m_jnt, m_er hs, gr_86_0 hs, gr_86_1 hs, gr_86_2 hs, gr_86_4 hs, gr_86_5 hs, gr_86_6 hs, gr_86_7 hs, gr_86_8 hs, gr_86_15 hs, gr_86_16 hs, gr_86_17 hs, gr_86_18 hs, gr_86_19 hs, gr_86_20 hs, gr_86_21 hs, gr_86_27 hs, gr_86_28 hs, gr_86_29 hs, ko_86 hs, gi_86 hs, pi_86 hs, al_87 hs, ai_87 hs, ui_87 hs, al_88 hs, ai_88 hs, ui_88 hs, al_89 hs, ai_89 hs, ui_89 hs, al_90 hs, ai_90 hs, ui_90 hs, al_91 hs, ai_91 hs, ui_91 hs, al_92 hs, ai_92 hs, ui_92 hs, al_93 hs, ai_93 hs, ui_93 hs, al_94 hs, ai_94 hs, ui_94 hs, al_95 hs, ai_95 hs, ui_95 hs, al_96 hs, ai_96 hs, ui_96 hs, al_97 hs, ai_97 hs, ui_97 hs, al_98 hs, ai_98 hs, ui_98 hs, al_99 hs, ai_99 hs, ui_99 hs, al_100 hs, ai_100 hs, ui_100 hs, al_101 hs, ai_101 hs, ui_101 hs, al_102 hs, ai_102 hs, ui_102 hs, al_103 hs, ai_103 hs, ui_103 hs, al_104 hs, ai_104 hs, ui_104 hs]
    · rw [if_neg q]
      exact stop r L Fu r1 r2 (fun e => ⟨fun x => q ⟨e, by rw [x]; decide⟩, fun x => q ⟨e, by rw [x]; decide⟩⟩)
theorem m_tm (hs : Sh h) (hM : MT F Z T u) (hN : 10000 ≤ N) (hk : KBm h F Z T kB o g) (hp : p ≤ T.length) (hL : L.length ≤ p) : MD h F Z o L (pTm T u g p) (D_X12_term N kB (mh_w h (gz (rs F p o 0 L) Z)) 86) := by
  have h60 := hM.2.1.1
  have gd := pOne_gd (u := u) hk.gd
  obtain ⟨s1, s2, s3, s4⟩ := gd p hp
  have e1 := m_one (L := L) hs hM hN hk hp hL
  have e2 := m_tmL hs hM hN hk 60 N (pOne T u g p) L (by omega) s2 (by omega) s3 (by rw [List.length_append]; omega)
  unfold MD at e1 e2 ⊢
  refine Eq.trans ?_ e2
  unfold D_X12_term
  simp (disch := first | assumption | decide | omega) only [e1, lit, lt64, ofI1, some_bind, if_ib', zB_ib, zBn0, zBn1, zBn, dN_n, nI_add, nI_mul, nI_md, nI_sub, nI_div, md, le_pred, lt_T, lt_F, le_T, le_F, eq_T, eq_F, ng_le, ng_lt, lt_ng, le_ng, eq_ng, max_n, min_n, and_true, true_and, and_false, false_and, and_self, if_true, if_false, ite_self, ↓reduceIte, m_in32, m_isC, m_isS, m_isJ hs, m_jnt, m_er hs, gr_86_0 hs, gr_86_1 hs, gr_86_2 hs, gr_86_4 hs, gr_86_5 hs, gr_86_6 hs, gr_86_7 hs, gr_86_8 hs, gr_86_15 hs, gr_86_16 hs, gr_86_17 hs, gr_86_18 hs, gr_86_19 hs, gr_86_20 hs, gr_86_21 hs, gr_86_27 hs, gr_86_28 hs, gr_86_29 hs, ko_86 hs, gi_86 hs, pi_86 hs, al_87 hs, ai_87 hs, ui_87 hs, al_88 hs, ai_88 hs, ui_88 hs, al_89 hs, ai_89 hs, ui_89 hs, al_90 hs, ai_90 hs, ui_90 hs, al_91 hs, ai_91 hs, ui_91 hs, al_92 hs, ai_92 hs, ui_92 hs, al_93 hs, ai_93 hs, ui_93 hs, al_94 hs, ai_94 hs, ui_94 hs, al_95 hs, ai_95 hs, ui_95 hs, al_96 hs, ai_96 hs, ui_96 hs, al_97 hs, ai_97 hs, ui_97 hs, al_98 hs, ai_98 hs, ui_98 hs, al_99 hs, ai_99 hs, ui_99 hs, al_100 hs, ai_100 hs, ui_100 hs, al_101 hs, ai_101 hs, ui_101 hs, al_102 hs, ai_102 hs, ui_102 hs, al_103 hs, ai_103 hs, ui_103 hs, al_104 hs, ai_104 hs, ui_104 hs]
theorem m_smL (hs : Sh h) (hM : MT F Z T u) (hN : 10000 ≤ N) (hk : KBm h F Z T kB o g) : ∀ m Fu (r : RR) L, m < Fu → r.1 ≤ T.length → T.length ≤ r.1 + m → r.2.1 ≤ 1 → (L ++ r.2.2).length ≤ r.1 → MD h F Z o L (pLp T opS (pTm T u g) m r) (D_X12_sum_4 N kB Fu (mh_w h (gz (rs F r.1 o r.2.1 (L ++ r.2.2)) Z)) 86) := by
  have h60 := hM.2.1.1
  have gd := pTm_gd (u := u) hk.gd
  have stop : ∀ (r : RR) L Fu, r.1 ≤ T.length → r.2.1 ≤ 1 → (r.2.1 = 0 → chL T r.1 ≠ 43 ∧ chL T r.1 ≠ 45) → D_X12_sum_4 N kB (Fu + 1) (mh_w h (gz (rs F r.1 o r.2.1 (L ++ r.2.2)) Z)) 86 = some (mh_w h (gz (rs F r.1 o r.2.1 (L ++ r.2.2)) Z)) := fun r L Fu r1 r2 hne => by
    obtain ⟨x, h1, h2⟩ := m_hereX (L := L ++ r.2.2) (o := o) hs hM N r1 r2
    have h3 := h2 43 (by decide) (fun e => (hne e).1)
    have h4 := h2 45 (by decide) (fun e => (hne e).2)
    rw [D_X12_sum_4]
    simp (disch := first | assumption | decide | omega) only [h1, h3, h4, lit, lt64, ofI1, some_bind, if_ib', zB_ib, zBn0, zBn1, zBn, dN_n, nI_add, nI_mul, nI_md, nI_sub, nI_div, md, le_pred, lt_T, lt_F, le_T, le_F, eq_T, eq_F, ng_le, ng_lt, lt_ng, le_ng, eq_ng, max_n, min_n, and_true, true_and, and_false, false_and, and_self, if_true, if_false, ite_self, ↓reduceIte, m_in32, m_isC, m_isS, m_isJ hs, m_jnt, m_er hs, gr_86_0 hs, gr_86_1 hs, gr_86_2 hs, gr_86_4 hs, gr_86_5 hs, gr_86_6 hs, gr_86_7 hs, gr_86_8 hs, gr_86_15 hs, gr_86_16 hs, gr_86_17 hs, gr_86_18 hs, gr_86_19 hs, gr_86_20 hs, gr_86_21 hs, gr_86_27 hs, gr_86_28 hs, gr_86_29 hs, ko_86 hs, gi_86 hs, pi_86 hs, al_87 hs, ai_87 hs, ui_87 hs, al_88 hs, ai_88 hs, ui_88 hs, al_89 hs, ai_89 hs, ui_89 hs, al_90 hs, ai_90 hs, ui_90 hs, al_91 hs, ai_91 hs, ui_91 hs, al_92 hs, ai_92 hs, ui_92 hs, al_93 hs, ai_93 hs, ui_93 hs, al_94 hs, ai_94 hs, ui_94 hs, al_95 hs, ai_95 hs, ui_95 hs, al_96 hs, ai_96 hs, ui_96 hs, al_97 hs, ai_97 hs, ui_97 hs, al_98 hs, ai_98 hs, ui_98 hs, al_99 hs, ai_99 hs, ui_99 hs, al_100 hs, ai_100 hs, ui_100 hs, al_101 hs, ai_101 hs, ui_101 hs, al_102 hs, ai_102 hs, ui_102 hs, al_103 hs, ai_103 hs, ui_103 hs, al_104 hs, ai_104 hs, ui_104 hs]
  intro m
  induction m with
  | zero =>
    intro Fu r L hF r1 r3 r2 hL
    obtain ⟨Fu, rfl⟩ : ∃ F1, Fu = F1 + 1 := ⟨Fu - 1, by omega⟩
    exact stop r L Fu r1 r2 (fun _ => by rw [chL_end (by omega)]; decide)
  | succ m ih =>
    intro Fu r L hF r1 r3 r2 hL
    obtain ⟨Fu, rfl⟩ : ∃ F1, Fu = F1 + 1 := ⟨Fu - 1, by omega⟩
    rw [pLp]
    by_cases q : r.2.1 = 0 ∧ opS (chL T r.1) < 9
    · rw [if_pos q]
      have q1 := q.1
      have hl := chL_lt (op_lt.2.1 q.2)
      obtain ⟨s1, s2, s3, s4⟩ := gd (r.1 + 1) (by omega)
      have e1 := m_tm (L := L ++ r.2.2) hs hM hN hk (p := r.1 + 1) (by omega) (by omega)
      unfold MD at e1
      have go : ∀ k, k = opS (chL T r.1) → D_X12_sum_36 N kB (D_X12_sum_4 N kB Fu) (mh_w h (gz (rs F r.1 o 0 (L ++ r.2.2)) Z)) 86 (nI k) = D_X12_sum_4 N kB Fu (mh_w h (gz (rs F (pLn r (pTm T u g (r.1 + 1)) k).1 o (pLn r (pTm T u g (r.1 + 1)) k).2.1 (L ++ (pLn r (pTm T u g (r.1 + 1)) k).2.2)) Z)) 86 := fun k ek => by
        generalize pTm T u g (r.1 + 1) = s at *
        unfold D_X12_sum_36 pLn
        rw [List.length_append] at hL
        by_cases qs : s.2.1 = 0
        · have pt := mt_puts (F := F) (Z := Z) (p := s.1) (o := o) (L := L ++ r.2.2 ++ s.2.2) (c := 2000 + k) hs N (by rw [List.length_append, List.length_append]; omega)
          have ea : L ++ (r.2.2 ++ s.2.2 ++ [2000 + k]) = L ++ r.2.2 ++ s.2.2 ++ [2000 + k] := by rw [← List.append_assoc, ← List.append_assoc]
          rw [qs] at e1
          simp (disch := first | assumption | decide | omega) only [rs_11, rs_u11, e1, pt, qs, ea, lit, lt64, ofI1, some_bind, if_ib', zB_ib, zBn0, zBn1, zBn, dN_n, nI_add, nI_mul, nI_md, nI_sub, nI_div, md, le_pred, lt_T, lt_F, le_T, le_F, eq_T, eq_F, ng_le, ng_lt, lt_ng, le_ng, eq_ng, max_n, min_n, and_true, true_and, and_false, false_and, and_self, if_true, if_false, ite_self, ↓reduceIte, m_in32, m_isC, m_isS, m_isJ hs, m_jnt, m_er hs, gr_86_0 hs, gr_86_1 hs, gr_86_2 hs, gr_86_4 hs, gr_86_5 hs, gr_86_6 hs, gr_86_7 hs, gr_86_8 hs, gr_86_15 hs, gr_86_16 hs, gr_86_17 hs, gr_86_18 hs, gr_86_19 hs, gr_86_20 hs, gr_86_21 hs, gr_86_27 hs, gr_86_28 hs, gr_86_29 hs, ko_86 hs, gi_86 hs, pi_86 hs, al_87 hs, ai_87 hs, ui_87 hs, al_88 hs, ai_88 hs, ui_88 hs, al_89 hs, ai_89 hs, ui_89 hs, al_90 hs, ai_90 hs, ui_90 hs, al_91 hs, ai_91 hs, ui_91 hs, al_92 hs, ai_92 hs, ui_92 hs, al_93 hs, ai_93 hs, ui_93 hs, al_94 hs, ai_94 hs, ui_94 hs, al_95 hs, ai_95 hs, ui_95 hs, al_96 hs, ai_96 hs, ui_96 hs, al_97 hs, ai_97 hs, ui_97 hs, al_98 hs, ai_98 hs, ui_98 hs, al_99 hs, ai_99 hs, ui_99 hs, al_100 hs, ai_100 hs, ui_100 hs, al_101 hs, ai_101 hs, ui_101 hs, al_102 hs, ai_102 hs, ui_102 hs, al_103 hs, ai_103 hs, ui_103 hs, al_104 hs, ai_104 hs, ui_104 hs]
        · have qs1 : s.2.1 = 1 := by omega
          have pt := mt_putsF (F := F) (Z := Z) (p := s.1) (o := o) (L := L ++ r.2.2 ++ s.2.2) (c := 2000 + k) hs N
          have ea : L ++ (r.2.2 ++ s.2.2 ++ []) = L ++ r.2.2 ++ s.2.2 := by rw [List.append_nil, ← List.append_assoc]
          have q10 : ¬ (1 : Nat) = 0 := by decide
          rw [qs1] at e1
          simp (disch := first | assumption | decide | omega) only [rs_11, rs_u11, e1, pt, qs1, q10, ea, lit, lt64, ofI1, some_bind, if_ib', zB_ib, zBn0, zBn1, zBn, dN_n, nI_add, nI_mul, nI_md, nI_sub, nI_div, md, le_pred, lt_T, lt_F, le_T, le_F, eq_T, eq_F, ng_le, ng_lt, lt_ng, le_ng, eq_ng, max_n, min_n, and_true, true_and, and_false, false_and, and_self, if_true, if_false, ite_self, ↓reduceIte, m_in32, m_isC, m_isS, m_isJ hs, m_jnt, m_er hs, gr_86_0 hs, gr_86_1 hs, gr_86_2 hs, gr_86_4 hs, gr_86_5 hs, gr_86_6 hs, gr_86_7 hs, gr_86_8 hs, gr_86_15 hs, gr_86_16 hs, gr_86_17 hs, gr_86_18 hs, gr_86_19 hs, gr_86_20 hs, gr_86_21 hs, gr_86_27 hs, gr_86_28 hs, gr_86_29 hs, ko_86 hs, gi_86 hs, pi_86 hs, al_87 hs, ai_87 hs, ui_87 hs, al_88 hs, ai_88 hs, ui_88 hs, al_89 hs, ai_89 hs, ui_89 hs, al_90 hs, ai_90 hs, ui_90 hs, al_91 hs, ai_91 hs, ui_91 hs, al_92 hs, ai_92 hs, ui_92 hs, al_93 hs, ai_93 hs, ui_93 hs, al_94 hs, ai_94 hs, ui_94 hs, al_95 hs, ai_95 hs, ui_95 hs, al_96 hs, ai_96 hs, ui_96 hs, al_97 hs, ai_97 hs, ui_97 hs, al_98 hs, ai_98 hs, ui_98 hs, al_99 hs, ai_99 hs, ui_99 hs, al_100 hs, ai_100 hs, ui_100 hs, al_101 hs, ai_101 hs, ui_101 hs, al_102 hs, ai_102 hs, ui_102 hs, al_103 hs, ai_103 hs, ui_103 hs, al_104 hs, ai_104 hs, ui_104 hs]
      rw [List.length_append] at hL
      obtain ⟨b1, b2, b3, b4⟩ := pLn_b (o := opS (chL T r.1)) (p := L.length) r1 (by omega) s1 s2 s3 s4 (by omega)
      have ih' := ih Fu (pLn r (pTm T u g (r.1 + 1)) (opS (chL T r.1))) L (by omega) b2 (by show T.length ≤ (pTm T u g (r.1 + 1)).1 + m; omega) b3 (by rw [List.length_append]; omega)
      unfold MD at ih' ⊢
      refine Eq.trans ?_ ih'
      rw [q1, D_X12_sum_4]
      rcases opS_c q.2 with ⟨qc, qo⟩ | ⟨qc, qo⟩
      · have g1 := go 0 qo.symm
        have hh := m_hereT (L := L ++ r.2.2) (o := o) hs hM N r1 qc (by decide)
        rw [qo]
        simp (disch := first | assumption | decide | omega) only [D_X12_sum_22, hh, g1, lit, lt64, ofI1, some_bind, if_ib', zB_ib, zBn0, zBn1, zBn, dN_n, nI_add, nI_mul, nI_md, nI_sub, nI_div, md, le_pred, lt_T, lt_F, le_T, le_F, eq_T, eq_F, ng_le, ng_lt, lt_ng, le_ng, eq_ng, max_n, min_n, and_true, true_and, and_false, false_and, and_self, if_true, if_false, ite_self, ↓reduceIte, m_in32, m_isC, m_isS, m_isJ hs, m_jnt, m_er hs, gr_86_0 hs, gr_86_1 hs, gr_86_2 hs, gr_86_4 hs, gr_86_5 hs, gr_86_6 hs, gr_86_7 hs, gr_86_8 hs, gr_86_15 hs, gr_86_16 hs, gr_86_17 hs, gr_86_18 hs, gr_86_19 hs, gr_86_20 hs, gr_86_21 hs, gr_86_27 hs, gr_86_28 hs, gr_86_29 hs, ko_86 hs, gi_86 hs, pi_86 hs, al_87 hs, ai_87 hs, ui_87 hs, al_88 hs, ai_88 hs, ui_88 hs, al_89 hs, ai_89 hs, ui_89 hs, al_90 hs, ai_90 hs, ui_90 hs, al_91 hs, ai_91 hs, ui_91 hs, al_92 hs, ai_92 hs, ui_92 hs, al_93 hs, ai_93 hs, ui_93 hs, al_94 hs, ai_94 hs, ui_94 hs, al_95 hs, ai_95 hs, ui_95 hs, al_96 hs, ai_96 hs, ui_96 hs, al_97 hs, ai_97 hs, ui_97 hs, al_98 hs, ai_98 hs, ui_98 hs, al_99 hs, ai_99 hs, ui_99 hs, al_100 hs, ai_100 hs, ui_100 hs, al_101 hs, ai_101 hs, ui_101 hs, al_102 hs, ai_102 hs, ui_102 hs, al_103 hs, ai_103 hs, ui_103 hs, al_104 hs, ai_104 hs, ui_104 hs]
      · have g1 := go 1 qo.symm
        have hh := m_hereT (L := L ++ r.2.2) (o := o) hs hM N r1 qc (by decide)
        rw [qo]
        simp (disch := first | assumption | decide | omega) only [D_X12_sum_22, hh, g1, lit, lt64, ofI1, some_bind, if_ib', zB_ib, zBn0, zBn1, zBn, dN_n, nI_add, nI_mul, nI_md, nI_sub, nI_div, md, le_pred, lt_T, lt_F, le_T, le_F, eq_T, eq_F, ng_le, ng_lt, lt_ng, le_ng, eq_ng, max_n, min_n, and_true, true_and, and_false, false_and, and_self, if_true, if_false, ite_self, ↓reduceIte, m_in32, m_isC, m_isS, m_isJ hs, m_jnt, m_er hs, gr_86_0 hs, gr_86_1 hs, gr_86_2 hs, gr_86_4 hs, gr_86_5 hs, gr_86_6 hs, gr_86_7 hs, gr_86_8 hs, gr_86_15 hs, gr_86_16 hs, gr_86_17 hs, gr_86_18 hs, gr_86_19 hs, gr_86_20 hs, gr_86_21 hs, gr_86_27 hs, gr_86_28 hs, gr_86_29 hs, ko_86 hs, gi_86 hs, pi_86 hs, al_87 hs, ai_87 hs, ui_87 hs, al_88 hs, ai_88 hs, ui_88 hs, al_89 hs, ai_89 hs, ui_89 hs, al_90 hs, ai_90 hs, ui_90 hs, al_91 hs, ai_91 hs, ui_91 hs, al_92 hs, ai_92 hs, ui_92 hs, al_93 hs, ai_93 hs, ui_93 hs, al_94 hs, ai_94 hs, ui_94 hs, al_95 hs, ai_95 hs, ui_95 hs, al_96 hs, ai_96 hs, ui_96 hs, al_97 hs, ai_97 hs, ui_97 hs, al_98 hs, ai_98 hs, ui_98 hs, al_99 hs, ai_99 hs, ui_99 hs, al_100 hs, ai_100 hs, ui_100 hs, al_101 hs, ai_101 hs, ui_101 hs, al_102 hs, ai_102 hs, ui_102 hs, al_103 hs, ai_103 hs, ui_103 hs, al_104 hs, ai_104 hs, ui_104 hs]
    · rw [if_neg q]
      exact stop r L Fu r1 r2 (fun e => ⟨fun x => q ⟨e, by rw [x]; decide⟩, fun x => q ⟨e, by rw [x]; decide⟩⟩)
theorem m_s1 (hs : Sh h) (hM : MT F Z T u) (hN : 10000 ≤ N) (hk : KBm h F Z T kB o g) (hp : p ≤ T.length) (hL : L.length ≤ p) : MD h F Z o L (pS1 T u g p) (E_X12_sum N kB (mh_w h (gz (rs F p o 0 L) Z)) 86) := by
  have h60 := hM.2.1.1
  have gd := pTm_gd (u := u) hk.gd
  obtain ⟨s1, s2, s3, s4⟩ := gd p hp
  have e1 := m_tm (L := L) hs hM hN hk hp hL
  have e2 := m_smL hs hM hN hk 60 N (pTm T u g p) L (by omega) s2 (by omega) s3 (by rw [List.length_append]; omega)
  unfold MD at e1 e2 ⊢
  refine Eq.trans ?_ e2
  unfold E_X12_sum
  simp (disch := first | assumption | decide | omega) only [e1, lit, lt64, ofI1, some_bind, if_ib', zB_ib, zBn0, zBn1, zBn, dN_n, nI_add, nI_mul, nI_md, nI_sub, nI_div, md, le_pred, lt_T, lt_F, le_T, le_F, eq_T, eq_F, ng_le, ng_lt, lt_ng, le_ng, eq_ng, max_n, min_n, and_true, true_and, and_false, false_and, and_self, if_true, if_false, ite_self, ↓reduceIte, m_in32, m_isC, m_isS, m_isJ hs, m_jnt, m_er hs, gr_86_0 hs, gr_86_1 hs, gr_86_2 hs, gr_86_4 hs, gr_86_5 hs, gr_86_6 hs, gr_86_7 hs, gr_86_8 hs, gr_86_15 hs, gr_86_16 hs, gr_86_17 hs, gr_86_18 hs, gr_86_19 hs, gr_86_20 hs, gr_86_21 hs, gr_86_27 hs, gr_86_28 hs, gr_86_29 hs, ko_86 hs, gi_86 hs, pi_86 hs, al_87 hs, ai_87 hs, ui_87 hs, al_88 hs, ai_88 hs, ui_88 hs, al_89 hs, ai_89 hs, ui_89 hs, al_90 hs, ai_90 hs, ui_90 hs, al_91 hs, ai_91 hs, ui_91 hs, al_92 hs, ai_92 hs, ui_92 hs, al_93 hs, ai_93 hs, ui_93 hs, al_94 hs, ai_94 hs, ui_94 hs, al_95 hs, ai_95 hs, ui_95 hs, al_96 hs, ai_96 hs, ui_96 hs, al_97 hs, ai_97 hs, ui_97 hs, al_98 hs, ai_98 hs, ui_98 hs, al_99 hs, ai_99 hs, ui_99 hs, al_100 hs, ai_100 hs, ui_100 hs, al_101 hs, ai_101 hs, ui_101 hs, al_102 hs, ai_102 hs, ui_102 hs, al_103 hs, ai_103 hs, ui_103 hs, al_104 hs, ai_104 hs, ui_104 hs]
theorem m_sm (hs : Sh h) (hM : MT F Z T u) (hN : 10000 ≤ N) : ∀ d D o p L, o + d = 4 → d < D → p ≤ T.length → L.length ≤ p → MD h F Z o L (pSm T u d p) (D_X12_sum N D (mh_w h (gz (rs F p o 0 L) Z)) 86) := by
  intro d
  induction d with
  | zero =>
    intro D o p L ho hD hp hL
    obtain ⟨D, rfl⟩ : ∃ F1, D = F1 + 1 := ⟨D - 1, by omega⟩
    rw [D_X12_sum, pSm]
    exact m_s1 hs hM hN (Or.inl ⟨by omega, rfl⟩) hp hL
  | succ d ih =>
    intro D o p L ho hD hp hL
    obtain ⟨D, rfl⟩ : ∃ F1, D = F1 + 1 := ⟨D - 1, by omega⟩
    rw [D_X12_sum, pSm]
    exact m_s1 hs hM hN (Or.inr ⟨by omega, _, rfl, pSm_gd T u d, fun p L hp hL => ih D (o + 1) p L (by omega) (by omega) hp hL⟩) hp hL
theorem m_test (hs : Sh h) (hM : MT F Z T u) (hN : 10000 ≤ N) (hp : p ≤ T.length) (hL : L.length ≤ p) : MD h F Z 0 L (pTs T u p) (D_X12_test N (mh_w h (gz (rs F p 0 0 L) Z)) 86) := by
  have h60 := hM.2.1.1
  have e1 := m_sm hs hM hN 4 12 0 p L (by omega) (by omega) hp hL
  obtain ⟨a1, a2, a3, a4⟩ := pSm_gd T u 4 p hp
  have pb1 := fun (F : F2) => pb_83 (Z := Z) hs F (x := 1) (by decide)
  have m1 := m1_neg
  have n1 : (nI 0 ≤ -nI 1) = False := eq_false (by decide)
  unfold pTs MD
  unfold MD at e1
  by_cases q : (pSm T u 4 p).2.1 = 0 ∧ opC (chL T (pSm T u 4 p).1) < 9
  · rw [if_pos q]
    have hl := chL_lt (op_lt.2.2 q.2)
    have f1 := m_sm hs hM hN 4 12 0 ((pSm T u 4 p).1 + 1) (L ++ (pSm T u 4 p).2.2) (by omega) (by omega) (by omega) (by rw [List.length_append]; omega)
    obtain ⟨c1, c2, c3, c4⟩ := pSm_gd T u 4 ((pSm T u 4 p).1 + 1) (by omega)
    unfold MD at f1
    generalize pSm T u 4 p = s at *
    generalize pSm T u 4 (s.1 + 1) = r at *
    have q1 := q.1
    rw [q1] at e1
    have go : ∀ k, k < 9 → D_X12_test_45 N (mh_w h (gz (rs F s.1 0 0 (L ++ s.2.2)) Z)) 86 (nI k) = some (mh_w h (gz (rs F (pLn s r k).1 0 (pLn s r k).2.1 (L ++ (pLn s r k).2.2)) Z)) := fun k k9 => by
      unfold D_X12_test_45 pLn
      by_cases qs : r.2.1 = 0
      · have pt := mt_puts (F := F) (Z := Z) (p := r.1) (o := 0) (L := L ++ s.2.2 ++ r.2.2) (c := 2000 + k) hs N (by rw [List.length_append, List.length_append]; omega)
        have ea : L ++ (s.2.2 ++ r.2.2 ++ [2000 + k]) = L ++ s.2.2 ++ r.2.2 ++ [2000 + k] := by rw [← List.append_assoc, ← List.append_assoc]
        rw [qs] at f1
        simp (disch := first | assumption | decide | omega) only [rs_11, rs_u11, f1, pt, qs, ea, lit, lt64, ofI1, some_bind, if_ib', zB_ib, zBn0, zBn1, zBn, dN_n, nI_add, nI_mul, nI_md, nI_sub, nI_div, md, le_pred, lt_T, lt_F, le_T, le_F, eq_T, eq_F, ng_le, ng_lt, lt_ng, le_ng, eq_ng, max_n, min_n, and_true, true_and, and_false, false_and, and_self, if_true, if_false, ite_self, ↓reduceIte, m_in32, m_isC, m_isS, m_isJ hs, m_jnt, m_er hs, gr_86_0 hs, gr_86_1 hs, gr_86_2 hs, gr_86_4 hs, gr_86_5 hs, gr_86_6 hs, gr_86_7 hs, gr_86_8 hs, gr_86_15 hs, gr_86_16 hs, gr_86_17 hs, gr_86_18 hs, gr_86_19 hs, gr_86_20 hs, gr_86_21 hs, gr_86_27 hs, gr_86_28 hs, gr_86_29 hs, ko_86 hs, gi_86 hs, pi_86 hs, al_87 hs, ai_87 hs, ui_87 hs, al_88 hs, ai_88 hs, ui_88 hs, al_89 hs, ai_89 hs, ui_89 hs, al_90 hs, ai_90 hs, ui_90 hs, al_91 hs, ai_91 hs, ui_91 hs, al_92 hs, ai_92 hs, ui_92 hs, al_93 hs, ai_93 hs, ui_93 hs, al_94 hs, ai_94 hs, ui_94 hs, al_95 hs, ai_95 hs, ui_95 hs, al_96 hs, ai_96 hs, ui_96 hs, al_97 hs, ai_97 hs, ui_97 hs, al_98 hs, ai_98 hs, ui_98 hs, al_99 hs, ai_99 hs, ui_99 hs, al_100 hs, ai_100 hs, ui_100 hs, al_101 hs, ai_101 hs, ui_101 hs, al_102 hs, ai_102 hs, ui_102 hs, al_103 hs, ai_103 hs, ui_103 hs, al_104 hs, ai_104 hs, ui_104 hs]
      · have qs1 : r.2.1 = 1 := by omega
        have pt := mt_putsF (F := F) (Z := Z) (p := r.1) (o := 0) (L := L ++ s.2.2 ++ r.2.2) (c := 2000 + k) hs N
        have ea : L ++ (s.2.2 ++ r.2.2 ++ []) = L ++ s.2.2 ++ r.2.2 := by rw [List.append_nil, ← List.append_assoc]
        have q10 : ¬ (1 : Nat) = 0 := by decide
        rw [qs1] at f1
        simp (disch := first | assumption | decide | omega) only [rs_11, rs_u11, f1, pt, qs1, q10, ea, lit, lt64, ofI1, some_bind, if_ib', zB_ib, zBn0, zBn1, zBn, dN_n, nI_add, nI_mul, nI_md, nI_sub, nI_div, md, le_pred, lt_T, lt_F, le_T, le_F, eq_T, eq_F, ng_le, ng_lt, lt_ng, le_ng, eq_ng, max_n, min_n, and_true, true_and, and_false, false_and, and_self, if_true, if_false, ite_self, ↓reduceIte, m_in32, m_isC, m_isS, m_isJ hs, m_jnt, m_er hs, gr_86_0 hs, gr_86_1 hs, gr_86_2 hs, gr_86_4 hs, gr_86_5 hs, gr_86_6 hs, gr_86_7 hs, gr_86_8 hs, gr_86_15 hs, gr_86_16 hs, gr_86_17 hs, gr_86_18 hs, gr_86_19 hs, gr_86_20 hs, gr_86_21 hs, gr_86_27 hs, gr_86_28 hs, gr_86_29 hs, ko_86 hs, gi_86 hs, pi_86 hs, al_87 hs, ai_87 hs, ui_87 hs, al_88 hs, ai_88 hs, ui_88 hs, al_89 hs, ai_89 hs, ui_89 hs, al_90 hs, ai_90 hs, ui_90 hs, al_91 hs, ai_91 hs, ui_91 hs, al_92 hs, ai_92 hs, ui_92 hs, al_93 hs, ai_93 hs, ui_93 hs, al_94 hs, ai_94 hs, ui_94 hs, al_95 hs, ai_95 hs, ui_95 hs, al_96 hs, ai_96 hs, ui_96 hs, al_97 hs, ai_97 hs, ui_97 hs, al_98 hs, ai_98 hs, ui_98 hs, al_99 hs, ai_99 hs, ui_99 hs, al_100 hs, ai_100 hs, ui_100 hs, al_101 hs, ai_101 hs, ui_101 hs, al_102 hs, ai_102 hs, ui_102 hs, al_103 hs, ai_103 hs, ui_103 hs, al_104 hs, ai_104 hs, ui_104 hs]
    unfold D_X12_test
    rcases opC_c q.2 with ⟨qc, qo⟩ | ⟨qc, qo⟩ | ⟨qc, qo⟩
    · have g1 := go 4 (by decide)
      have hh := m_hereT (L := L ++ s.2.2) (o := 0) hs hM N a2 qc (by decide)
      rw [qo]
      simp (disch := first | assumption | decide | omega) only [e1, hh, g1, lit, lt64, ofI1, some_bind, if_ib', zB_ib, zBn0, zBn1, zBn, dN_n, nI_add, nI_mul, nI_md, nI_sub, nI_div, md, le_pred, lt_T, lt_F, le_T, le_F, eq_T, eq_F, ng_le, ng_lt, lt_ng, le_ng, eq_ng, max_n, min_n, and_true, true_and, and_false, false_and, and_self, if_true, if_false, ite_self, ↓reduceIte, m_in32, m_isC, m_isS, m_isJ hs, m_jnt, m_er hs, gr_86_0 hs, gr_86_1 hs, gr_86_2 hs, gr_86_4 hs, gr_86_5 hs, gr_86_6 hs, gr_86_7 hs, gr_86_8 hs, gr_86_15 hs, gr_86_16 hs, gr_86_17 hs, gr_86_18 hs, gr_86_19 hs, gr_86_20 hs, gr_86_21 hs, gr_86_27 hs, gr_86_28 hs, gr_86_29 hs, ko_86 hs, gi_86 hs, pi_86 hs, al_87 hs, ai_87 hs, ui_87 hs, al_88 hs, ai_88 hs, ui_88 hs, al_89 hs, ai_89 hs, ui_89 hs, al_90 hs, ai_90 hs, ui_90 hs, al_91 hs, ai_91 hs, ui_91 hs, al_92 hs, ai_92 hs, ui_92 hs, al_93 hs, ai_93 hs, ui_93 hs, al_94 hs, ai_94 hs, ui_94 hs, al_95 hs, ai_95 hs, ui_95 hs, al_96 hs, ai_96 hs, ui_96 hs, al_97 hs, ai_97 hs, ui_97 hs, al_98 hs, ai_98 hs, ui_98 hs, al_99 hs, ai_99 hs, ui_99 hs, al_100 hs, ai_100 hs, ui_100 hs, al_101 hs, ai_101 hs, ui_101 hs, al_102 hs, ai_102 hs, ui_102 hs, al_103 hs, ai_103 hs, ui_103 hs, al_104 hs, ai_104 hs, ui_104 hs]
    · have g1 := go 5 (by decide)
      have hh := m_hereT (L := L ++ s.2.2) (o := 0) hs hM N a2 qc (by decide)
      rw [qo]
      simp (disch := first | assumption | decide | omega) only [e1, hh, g1, lit, lt64, ofI1, some_bind, if_ib', zB_ib, zBn0, zBn1, zBn, dN_n, nI_add, nI_mul, nI_md, nI_sub, nI_div, md, le_pred, lt_T, lt_F, le_T, le_F, eq_T, eq_F, ng_le, ng_lt, lt_ng, le_ng, eq_ng, max_n, min_n, and_true, true_and, and_false, false_and, and_self, if_true, if_false, ite_self, ↓reduceIte, m_in32, m_isC, m_isS, m_isJ hs, m_jnt, m_er hs, gr_86_0 hs, gr_86_1 hs, gr_86_2 hs, gr_86_4 hs, gr_86_5 hs, gr_86_6 hs, gr_86_7 hs, gr_86_8 hs, gr_86_15 hs, gr_86_16 hs, gr_86_17 hs, gr_86_18 hs, gr_86_19 hs, gr_86_20 hs, gr_86_21 hs, gr_86_27 hs, gr_86_28 hs, gr_86_29 hs, ko_86 hs, gi_86 hs, pi_86 hs, al_87 hs, ai_87 hs, ui_87 hs, al_88 hs, ai_88 hs, ui_88 hs, al_89 hs, ai_89 hs, ui_89 hs, al_90 hs, ai_90 hs, ui_90 hs, al_91 hs, ai_91 hs, ui_91 hs, al_92 hs, ai_92 hs, ui_92 hs, al_93 hs, ai_93 hs, ui_93 hs, al_94 hs, ai_94 hs, ui_94 hs, al_95 hs, ai_95 hs, ui_95 hs, al_96 hs, ai_96 hs, ui_96 hs, al_97 hs, ai_97 hs, ui_97 hs, al_98 hs, ai_98 hs, ui_98 hs, al_99 hs, ai_99 hs, ui_99 hs, al_100 hs, ai_100 hs, ui_100 hs, al_101 hs, ai_101 hs, ui_101 hs, al_102 hs, ai_102 hs, ui_102 hs, al_103 hs, ai_103 hs, ui_103 hs, al_104 hs, ai_104 hs, ui_104 hs]
    · have g1 := go 6 (by decide)
      have hh := m_hereT (L := L ++ s.2.2) (o := 0) hs hM N a2 qc (by decide)
      rw [qo]
      simp (disch := first | assumption | decide | omega) only [e1, hh, g1, lit, lt64, ofI1, some_bind, if_ib', zB_ib, zBn0, zBn1, zBn, dN_n, nI_add, nI_mul, nI_md, nI_sub, nI_div, md, le_pred, lt_T, lt_F, le_T, le_F, eq_T, eq_F, ng_le, ng_lt, lt_ng, le_ng, eq_ng, max_n, min_n, and_true, true_and, and_false, false_and, and_self, if_true, if_false, ite_self, ↓reduceIte, m_in32, m_isC, m_isS, m_isJ hs, m_jnt, m_er hs, gr_86_0 hs, gr_86_1 hs, gr_86_2 hs, gr_86_4 hs, gr_86_5 hs, gr_86_6 hs, gr_86_7 hs, gr_86_8 hs, gr_86_15 hs, gr_86_16 hs, gr_86_17 hs, gr_86_18 hs, gr_86_19 hs, gr_86_20 hs, gr_86_21 hs, gr_86_27 hs, gr_86_28 hs, gr_86_29 hs, ko_86 hs, gi_86 hs, pi_86 hs, al_87 hs, ai_87 hs, ui_87 hs, al_88 hs, ai_88 hs, ui_88 hs, al_89 hs, ai_89 hs, ui_89 hs, al_90 hs, ai_90 hs, ui_90 hs, al_91 hs, ai_91 hs, ui_91 hs, al_92 hs, ai_92 hs, ui_92 hs, al_93 hs, ai_93 hs, ui_93 hs, al_94 hs, ai_94 hs, ui_94 hs, al_95 hs, ai_95 hs, ui_95 hs, al_96 hs, ai_96 hs, ui_96 hs, al_97 hs, ai_97 hs, ui_97 hs, al_98 hs, ai_98 hs, ui_98 hs, al_99 hs, ai_99 hs, ui_99 hs, al_100 hs, ai_100 hs, ui_100 hs, al_101 hs, ai_101 hs, ui_101 hs, al_102 hs, ai_102 hs, ui_102 hs, al_103 hs, ai_103 hs, ui_103 hs, al_104 hs, ai_104 hs, ui_104 hs]
  · rw [if_neg q]
    generalize pSm T u 4 p = s at *
    obtain ⟨x, h1, h2⟩ := m_hereX (L := L ++ s.2.2) (o := 0) hs hM N a2 a3
    have h3 := h2 60 (by decide) (fun e x => q ⟨e, by rw [x]; decide⟩)
    have h4 := h2 61 (by decide) (fun e x => q ⟨e, by rw [x]; decide⟩)
    have h5 := h2 62 (by decide) (fun e x => q ⟨e, by rw [x]; decide⟩)
    unfold D_X12_test
    simp (disch := first | assumption | decide | omega) only [D_X12_test_45, e1, h1, h3, h4, h5, n1, pb1, rs_u14, lit, lt64, ofI1, some_bind, if_ib', zB_ib, zBn0, zBn1, zBn, dN_n, nI_add, nI_mul, nI_md, nI_sub, nI_div, md, le_pred, lt_T, lt_F, le_T, le_F, eq_T, eq_F, ng_le, ng_lt, lt_ng, le_ng, eq_ng, max_n, min_n, and_true, true_and, and_false, false_and, and_self, if_true, if_false, ite_self, ↓reduceIte, m_in32, m_isC, m_isS, m_isJ hs, m_jnt, m_er hs, gr_86_0 hs, gr_86_1 hs, gr_86_2 hs, gr_86_4 hs, gr_86_5 hs, gr_86_6 hs, gr_86_7 hs, gr_86_8 hs, gr_86_15 hs, gr_86_16 hs, gr_86_17 hs, gr_86_18 hs, gr_86_19 hs, gr_86_20 hs, gr_86_21 hs, gr_86_27 hs, gr_86_28 hs, gr_86_29 hs, ko_86 hs, gi_86 hs, pi_86 hs, al_87 hs, ai_87 hs, ui_87 hs, al_88 hs, ai_88 hs, ui_88 hs, al_89 hs, ai_89 hs, ui_89 hs, al_90 hs, ai_90 hs, ui_90 hs, al_91 hs, ai_91 hs, ui_91 hs, al_92 hs, ai_92 hs, ui_92 hs, al_93 hs, ai_93 hs, ui_93 hs, al_94 hs, ai_94 hs, ui_94 hs, al_95 hs, ai_95 hs, ui_95 hs, al_96 hs, ai_96 hs, ui_96 hs, al_97 hs, ai_97 hs, ui_97 hs, al_98 hs, ai_98 hs, ui_98 hs, al_99 hs, ai_99 hs, ui_99 hs, al_100 hs, ai_100 hs, ui_100 hs, al_101 hs, ai_101 hs, ui_101 hs, al_102 hs, ai_102 hs, ui_102 hs, al_103 hs, ai_103 hs, ui_103 hs, al_104 hs, ai_104 hs, ui_104 hs]
end T06
