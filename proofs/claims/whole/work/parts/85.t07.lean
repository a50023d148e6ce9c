/-! the reference's reads: cases, their ends -/
section T07
variable {h : mh_H} {F : F2} {Z : Z1} {T L : List Nat} {u N p f o : Nat} {k2 : mh_H → Nat → Int32 → Option mh_H}
theorem m_A (hs : Sh h) (hM : MT F Z T u) (hN : 10000 ≤ N) : ∀ m Fu p L, m < Fu → p ≤ T.length → T.length ≤ p + m → L.length ≤ p → D_X12_reads_38 N k2 Fu (mh_w h (gz (rs F (pTs T u p).1 0 (pTs T u p).2.1 (L ++ (pTs T u p).2.2)) Z)) 86 = D_X12_reads_54 N k2 (mh_w h (gz (rs F (pA T u m p).1 0 (pA T u m p).2.1 (L ++ (pA T u m p).2.2)) Z)) 86 := by
  have stop : ∀ Fu (s : RR) L, s.1 ≤ T.length → s.2.1 ≤ 1 → ¬ (s.2.1 = 0 ∧ chL T s.1 = 38) → D_X12_reads_38 N k2 (Fu + 1) (mh_w h (gz (rs F s.1 0 s.2.1 (L ++ s.2.2)) Z)) 86 = D_X12_reads_54 N k2 (mh_w h (gz (rs F s.1 0 s.2.1 (L ++ s.2.2)) Z)) 86 := fun Fu s L s1 s2 q => by
    have ht := m_takeF (L := L ++ s.2.2) (o := 0) (s := 38) hs hM N s1 s2 (by decide) (fun e x => q ⟨e, x⟩)
    rw [D_X12_reads_38]
    simp (disch := first | assumption | decide | omega) only [ht, lit, lt64, ofI1, some_bind, if_ib', zB_ib, zBn0, zBn1, zBn, dN_n, nI_add, nI_mul, nI_md, nI_sub, nI_div, md, le_pred, lt_T, lt_F, le_T, le_F, eq_T, eq_F, ng_le, ng_lt, lt_ng, le_ng, eq_ng, max_n, min_n, and_true, true_and, and_false, false_and, and_self, if_true, if_false, ite_self, ↓reduceIte, m_in32, m_isC, m_isS, m_isJ hs, m_jnt, m_er hs, gr_86_0 hs, gr_86_1 hs, gr_86_2 hs, gr_86_4 hs, gr_86_5 hs, gr_86_6 hs, gr_86_7 hs, gr_86_8 hs, gr_86_15 hs, gr_86_16 hs, gr_86_17 hs, gr_86_18 hs, gr_86_19 hs, gr_86_20 hs, gr_86_21 hs, gr_86_27 hs, gr_86_28 hs, gr_86_29 hs, ko_86 hs, gi_86 hs, pi_86 hs, al_87 hs, ai_87 hs, ui_87 hs, al_88 hs, ai_88 hs, ui_88 hs, al_89 hs, ai_89 hs, ui_89 hs, al_90 hs, ai_90 hs, ui_90 hs, al_91 hs, ai_91 hs, ui_91 hs, al_92 hs, ai_92 hs, ui_92 hs, al_93 hs, ai_93 hs, ui_93 hs, al_94 hs, ai_94 hs, ui_94 hs, al_95 hs, ai_95 hs, ui_95 hs, al_96 hs, ai_96 hs, ui_96 hs, al_97 hs, ai_97 hs, ui_97 hs, al_98 hs, ai_98 hs, ui_98 hs, al_99 hs, ai_99 hs, ui_99 hs, al_100 hs, ai_100 hs, ui_100 hs, al_101 hs, ai_101 hs, ui_101 hs, al_102 hs, ai_102 hs, ui_102 hs, al_103 hs, ai_103 hs, ui_103 hs, al_104 hs, ai_104 hs, ui_104 hs]
  intro m
  induction m with
  | zero =>
    intro Fu p L hF hp hpm hL
    obtain ⟨Fu, rfl⟩ : ∃ F1, Fu = F1 + 1 := ⟨Fu - 1, by omega⟩
    obtain ⟨a1, a2, a3, a4⟩ := pTs_gd T u p hp
    refine stop Fu (pTs T u p) L a2 a3 (fun q => ?_)
    have := chL_lt (T := T) (p := (pTs T u p).1) (by omega)
    omega
  | succ m ih =>
    intro Fu p L hF hp hpm hL
    obtain ⟨Fu, rfl⟩ : ∃ F1, Fu = F1 + 1 := ⟨Fu - 1, by omega⟩
    obtain ⟨a1, a2, a3, a4⟩ := pTs_gd T u p hp
    rw [pA]
    by_cases q : (pTs T u p).2.1 = 0 ∧ chL T (pTs T u p).1 = 38
    · rw [if_pos q]
      have hl := chL_lt (T := T) (p := (pTs T u p).1) (by omega)
      have ht := m_takeT (L := L ++ (pTs T u p).2.2) (o := 0) hs hM N a2 q.2 (by decide)
      have e1 := m_test (L := L ++ (pTs T u p).2.2) hs hM hN (p := (pTs T u p).1 + 1) (by omega) (by rw [List.length_append]; omega)
      unfold MD at e1
      have ih' := ih Fu ((pTs T u p).1 + 1) (L ++ (pTs T u p).2.2) (by omega) (by omega) (by omega) (by rw [List.length_append]; omega)
      rw [q.1, D_X12_reads_38]
      dsimp only
      rw [← List.append_assoc]
      simp (disch := first | assumption | decide | omega) only [ht, e1, ih', lit, lt64, ofI1, some_bind, if_ib', zB_ib, zBn0, zBn1, zBn, dN_n, nI_add, nI_mul, nI_md, nI_sub, nI_div, md, le_pred, lt_T, lt_F, le_T, le_F, eq_T, eq_F, ng_le, ng_lt, lt_ng, le_ng, eq_ng, max_n, min_n, and_true, true_and, and_false, false_and, and_self, if_true, if_false, ite_self, ↓reduceIte, m_in32, m_isC, m_isS, m_isJ hs, m_jnt, m_er hs, gr_86_0 hs, gr_86_1 hs, gr_86_2 hs, gr_86_4 hs, gr_86_5 hs, gr_86_6 hs, gr_86_7 hs, gr_86_8 hs, gr_86_15 hs, gr_86_16 hs, gr_86_17 hs, gr_86_18 hs, gr_86_19 hs, gr_86_20 hs, gr_86_21 hs, gr_86_27 hs, gr_86_28 hs, gr_86_29 hs, ko_86 hs, gi_86 hs, pi_86 hs, al_87 hs, ai_87 hs, ui_87 hs, al_88 hs, ai_88 hs, ui_88 hs, al_89 hs, ai_89 hs, ui_89 hs, al_90 hs, ai_90 hs, ui_90 hs, al_91 hs, ai_91 hs, ui_91 hs, al_92 hs, ai_92 hs, ui_92 hs, al_93 hs, ai_93 hs, ui_93 hs, al_94 hs, ai_94 hs, ui_94 hs, al_95 hs, ai_95 hs, ui_95 hs, al_96 hs, ai_96 hs, ui_96 hs, al_97 hs, ai_97 hs, ui_97 hs, al_98 hs, ai_98 hs, ui_98 hs, al_99 hs, ai_99 hs, ui_99 hs, al_100 hs, ai_100 hs, ui_100 hs, al_101 hs, ai_101 hs, ui_101 hs, al_102 hs, ai_102 hs, ui_102 hs, al_103 hs, ai_103 hs, ui_103 hs, al_104 hs, ai_104 hs, ui_104 hs]
    · rw [if_neg q]
      exact stop Fu (pTs T u p) L a2 a3 q
def encL (s : Nat) : List (List Nat × List Nat) → List Nat
  | [] => []
  | c :: r => (s + c.1.length) :: (s + c.1.length + c.2.length) :: encL (s + c.1.length + c.2.length) r
theorem encL_len : ∀ (cl : List (List Nat × List Nat)) s, (encL s cl).length = 2 * cl.length := by
  intro cl
  induction cl with
  | nil => intro s; rfl
  | cons c r ih => intro s; rw [encL, List.length_cons, List.length_cons, ih, List.length_cons]; omega
theorem lsF_u {a b j : Nat} {x : Int32} {P : List Nat} (hb : b ≠ a) : up2 (lsF F a P) b j x = lsF (up2 F b j x) a P := by
  funext c i
  unfold up2 lsF
  by_cases h1 : c = b ∧ i = j
  · rw [if_pos h1, if_neg (by omega)]
    exact (if_pos h1).symm
  · rw [if_neg h1]
    by_cases h2 : c = a ∧ i < P.length
    · rw [if_pos h2, if_pos h2]
    · rw [if_neg h2, if_neg h2]
      exact (if_neg h1).symm
theorem rs_u91 {j : Nat} {x : Int32} : up2 (rs F p o f L) 94 j x = rs (up2 F 94 j x) p o f L := by
  unfold rs
  rw [r83_o (by decide), lsF_u (by decide)]
theorem rs_u10 {x : Int32} : up2 (rs F p o f L) 86 10 x = rs (up2 F 86 10 x) p o f L := by
  unfold rs
  rw [← lsF_u (by decide)]
  funext b j
  unfold up2 r83
  by_cases h1 : b = 86
  · by_cases h2 : j = 10
    · simp only [h1, h2, and_self, if_true]
      rw [if_neg (by decide), if_neg (by decide), if_neg (by decide), if_neg (by decide)]
    · simp only [h1, h2, and_false, if_true, if_false]
  · simp only [h1, false_and, if_false]
theorem MT.up (hM : MT F Z T u) {a j : Nat} {x : Int32} (hq : ¬ (a = 86 ∧ j = 13)) : MT (up2 F a j x) Z T u := by
  obtain ⟨h1, h2, h3, h4, h5⟩ := hM
  refine ⟨h1, h2, h3, ?_, h5⟩
  unfold up2
  rw [if_neg (by omega)]
  exact h4
/-- the tests behind a sum -/
theorem m_tt (hs : Sh h) (hM : MT F Z T u) (hN : 10000 ≤ N) {s : RR} (s2 : s.1 ≤ T.length) (s3 : s.2.1 ≤ 1) (hL : L.length ≤ s.1) : (D_X12_takes_ N (mh_w h (gz (rs F s.1 0 s.2.1 L) Z)) 86 (nI 63)).bind (fun q6 => if q6.1 = nI 0 then (D_X12_reads_54 N k2 q6.2 86) else (kO q6.2 12 86 <| (D_X12_test N q6.2 86).bind fun q7 => D_X12_reads_38 N k2 N q7 86)) = D_X12_reads_54 N k2 (mh_w h (gz (rs F (pTt T u s).1 0 (pTt T u s).2.1 (L ++ (pTt T u s).2.2)) Z)) 86 := by
  have h60 := hM.2.1.1
  unfold pTt
  by_cases q : s.2.1 = 0 ∧ chL T s.1 = 63
  · rw [if_pos q]
    have hl := chL_lt (T := T) (p := s.1) (by omega)
    have ht := m_takeT (L := L) (o := 0) hs hM N s2 q.2 (by decide)
    have e1 := m_test (L := L) hs hM hN (p := s.1 + 1) (by omega) (by omega)
    unfold MD at e1
    have e2 := m_A (k2 := k2) hs hM hN 59 N (s.1 + 1) L (by omega) (by omega) (by omega) (by omega)
    rw [q.1]
    simp (disch := first | assumption | decide | omega) only [ht, e1, e2, lit, lt64, ofI1, some_bind, if_ib', zB_ib, zBn0, zBn1, zBn, dN_n, nI_add, nI_mul, nI_md, nI_sub, nI_div, md, le_pred, lt_T, lt_F, le_T, le_F, eq_T, eq_F, ng_le, ng_lt, lt_ng, le_ng, eq_ng, max_n, min_n, and_true, true_and, and_false, false_and, and_self, if_true, if_false, ite_self, ↓reduceIte, m_in32, m_isC, m_isS, m_isJ hs, m_jnt, m_er hs, gr_86_0 hs, gr_86_1 hs, gr_86_2 hs, gr_86_4 hs, gr_86_5 hs, gr_86_6 hs, gr_86_7 hs, gr_86_8 hs, gr_86_15 hs, gr_86_16 hs, gr_86_17 hs, gr_86_18 hs, gr_86_19 hs, gr_86_20 hs, gr_86_21 hs, gr_86_27 hs, gr_86_28 hs, gr_86_29 hs, ko_86 hs, gi_86 hs, pi_86 hs, al_87 hs, ai_87 hs, ui_87 hs, al_88 hs, ai_88 hs, ui_88 hs, al_89 hs, ai_89 hs, ui_89 hs, al_90 hs, ai_90 hs, ui_90 hs, al_91 hs, ai_91 hs, ui_91 hs, al_92 hs, ai_92 hs, ui_92 hs, al_93 hs, ai_93 hs, ui_93 hs, al_94 hs, ai_94 hs, ui_94 hs, al_95 hs, ai_95 hs, ui_95 hs, al_96 hs, ai_96 hs, ui_96 hs, al_97 hs, ai_97 hs, ui_97 hs, al_98 hs, ai_98 hs, ui_98 hs, al_99 hs, ai_99 hs, ui_99 hs, al_100 hs, ai_100 hs, ui_100 hs, al_101 hs, ai_101 hs, ui_101 hs, al_102 hs, ai_102 hs, ui_102 hs, al_103 hs, ai_103 hs, ui_103 hs, al_104 hs, ai_104 hs, ui_104 hs]
  · rw [if_neg q, List.append_nil]
    have ht := m_takeF (L := L) (o := 0) (s := 63) hs hM N s2 s3 (by decide) (fun e x => q ⟨e, x⟩)
    simp (disch := first | assumption | decide | omega) only [ht, lit, lt64, ofI1, some_bind, if_ib', zB_ib, zBn0, zBn1, zBn, dN_n, nI_add, nI_mul, nI_md, nI_sub, nI_div, md, le_pred, lt_T, lt_F, le_T, le_F, eq_T, eq_F, ng_le, ng_lt, lt_ng, le_ng, eq_ng, max_n, min_n, and_true, true_and, and_false, false_and, and_self, if_true, if_false, ite_self, ↓reduceIte, m_in32, m_isC, m_isS, m_isJ hs, m_jnt, m_er hs, gr_86_0 hs, gr_86_1 hs, gr_86_2 hs, gr_86_4 hs, gr_86_5 hs, gr_86_6 hs, gr_86_7 hs, gr_86_8 hs, gr_86_15 hs, gr_86_16 hs, gr_86_17 hs, gr_86_18 hs, gr_86_19 hs, gr_86_20 hs, gr_86_21 hs, gr_86_27 hs, gr_86_28 hs, gr_86_29 hs, ko_86 hs, gi_86 hs, pi_86 hs, al_87 hs, ai_87 hs, ui_87 hs, al_88 hs, ai_88 hs, ui_88 hs, al_89 hs, ai_89 hs, ui_89 hs, al_90 hs, ai_90 hs, ui_90 hs, al_91 hs, ai_91 hs, ui_91 hs, al_92 hs, ai_92 hs, ui_92 hs, al_93 hs, ai_93 hs, ui_93 hs, al_94 hs, ai_94 hs, ui_94 hs, al_95 hs, ai_95 hs, ui_95 hs, al_96 hs, ai_96 hs, ui_96 hs, al_97 hs, ai_97 hs, ui_97 hs, al_98 hs, ai_98 hs, ui_98 hs, al_99 hs, ai_99 hs, ui_99 hs, al_100 hs, ai_100 hs, ui_100 hs, al_101 hs, ai_101 hs, ui_101 hs, al_102 hs, ai_102 hs, ui_102 hs, al_103 hs, ai_103 hs, ui_103 hs, al_104 hs, ai_104 hs, ui_104 hs]
theorem m_reads (hs : Sh h) (hN : 10000 ≤ N) : ∀ m Fu k p L F, k + m = 6 → 1 ≤ m → m < Fu → MT F Z T u → F 86 10 = nI k → p ≤ T.length → L.length ≤ p → ∃ F', D_X12_reads_2 N Fu (mh_w h (gz (rs F p 0 0 L) Z)) 86 (nI 1) = some (mh_w h (gz (rs F' (pCs T u m p).1 0 (pCs T u m p).2.1 (L ++ cat (pCs T u m p).2.2)) Z)) ∧ F' 86 10 = nI (k + (pCs T u m p).2.2.length) ∧ (∀ a, a ≠ 86 → a ≠ 94 → F' a = F a) ∧ (∀ j, j ≠ 10 → F' 86 j = F 86 j) ∧ (∀ j, j < 2 * k → F' 94 j = F 94 j) ∧ (∀ i, i < 2 * (pCs T u m p).2.2.length → F' 94 (2 * k + i) = nI ((encL L.length (pCs T u m p).2.2).getD i 0)) ∧ (pCs T u m p).2.2.length ≤ m ∧ (pCs T u m p).1 ≤ T.length ∧ (L ++ cat (pCs T u m p).2.2).length ≤ (pCs T u m p).1 ∧ 1 ≤ (pCs T u m p).2.2.length ∧ (pCs T u m p).2.1 ≤ 1 := by
  intro m
  induction m with
  | zero => intro Fu k p L F hk h1; omega
  | succ m ih =>
    intro Fu k p L F hk h1 hF hM hc hp hL
    have h60 := hM.2.1.1
    obtain ⟨Fu, rfl⟩ : ∃ F1, Fu = F1 + 1 := ⟨Fu - 1, by omega⟩
    obtain ⟨G, rfl⟩ : ∃ F1, Fu = F1 + 1 := ⟨Fu - 1, by omega⟩
    have e1 := m_sm hs hM hN 4 12 0 p L (by omega) (by omega) hp hL
    unfold MD at e1
    obtain ⟨a1, a2, a3, a4⟩ := pSm_gd T u 4 p hp
    obtain ⟨b1, b2, b3, b4⟩ := pTt_gd T u a2 a3
    have hM1 : MT (up2 F 94 (2 * k) (nI (L ++ (pSm T u 4 p).2.2).length)) Z T u := hM.up (by omega)
    have e2 := m_tt (k2 := D_X12_reads_2 N (G + 1)) (L := L ++ (pSm T u 4 p).2.2) hs hM1 hN a2 a3 (by rw [List.length_append]; omega)
    rw [pCs]
    generalize pSm T u 4 p = s at *
    generalize pTt T u s = t at *
    have c10 : ∀ p o f L, rs F p o f L 86 10 = nI k := fun p o f L => (rs_x (by decide) (by decide) (by decide) (by decide)).trans hc
    generalize eF1 : up2 F 94 (2 * k) (nI (L ++ s.2.2).length) = F1 at *
    have hc1 : F1 86 10 = nI k := by rw [← eF1, up2_o (by decide)]; exact hc
    have c101 : ∀ p o f L, rs F1 p o f L 86 10 = nI k := fun p o f L => (rs_x (by decide) (by decide) (by decide) (by decide)).trans hc1
    have s1 : D_X12_reads_2 N (G + 1 + 1) (mh_w h (gz (rs F p 0 0 L) Z)) 86 (nI 1) = D_X12_reads_54 N (D_X12_reads_2 N (G + 1)) (mh_w h (gz (rs F1 t.1 0 t.2.1 (L ++ s.2.2 ++ t.2.2)) Z)) 86 := by
      refine Eq.trans ?_ e2
      rw [D_X12_reads_2]
      simp (disch := first | assumption | decide | omega) only [e1, c10, rs_9, rs_u91, eF1, lit, lt64, ofI1, some_bind, if_ib', zB_ib, zBn0, zBn1, zBn, dN_n, nI_add, nI_mul, nI_md, nI_sub, nI_div, md, le_pred, lt_T, lt_F, le_T, le_F, eq_T, eq_F, ng_le, ng_lt, lt_ng, le_ng, eq_ng, max_n, min_n, and_true, true_and, and_false, false_and, and_self, if_true, if_false, ite_self, ↓reduceIte, m_in32, m_isC, m_isS, m_isJ hs, m_jnt, m_er hs, gr_86_0 hs, gr_86_1 hs, gr_86_2 hs, gr_86_4 hs, gr_86_5 hs, gr_86_6 hs, gr_86_7 hs, gr_86_8 hs, gr_86_15 hs, gr_86_16 hs, gr_86_17 hs, gr_86_18 hs, gr_86_19 hs, gr_86_20 hs, gr_86_21 hs, gr_86_27 hs, gr_86_28 hs, gr_86_29 hs, ko_86 hs, gi_86 hs, pi_86 hs, al_87 hs, ai_87 hs, ui_87 hs, al_88 hs, ai_88 hs, ui_88 hs, al_89 hs, ai_89 hs, ui_89 hs, al_90 hs, ai_90 hs, ui_90 hs, al_91 hs, ai_91 hs, ui_91 hs, al_92 hs, ai_92 hs, ui_92 hs, al_93 hs, ai_93 hs, ui_93 hs, al_94 hs, ai_94 hs, ui_94 hs, al_95 hs, ai_95 hs, ui_95 hs, al_96 hs, ai_96 hs, ui_96 hs, al_97 hs, ai_97 hs, ui_97 hs, al_98 hs, ai_98 hs, ui_98 hs, al_99 hs, ai_99 hs, ui_99 hs, al_100 hs, ai_100 hs, ui_100 hs, al_101 hs, ai_101 hs, ui_101 hs, al_102 hs, ai_102 hs, ui_102 hs, al_103 hs, ai_103 hs, ui_103 hs, al_104 hs, ai_104 hs, ui_104 hs]
      rfl
    rw [s1]
    clear s1 e1 e2
    generalize eF2 : up2 F1 94 (2 * k + 1) (nI (L ++ s.2.2 ++ t.2.2).length) = F2
    have hc2 : F2 86 10 = nI k := by rw [← eF2, up2_o (by decide)]; exact hc1
    have c102 : ∀ p o f L, rs F2 p o f L 86 10 = nI k := fun p o f L => (rs_x (by decide) (by decide) (by decide) (by decide)).trans hc2
    generalize eF3 : up2 F2 86 10 (nI (k + 1)) = F3
    have hM3 : MT F3 Z T u := by
      rw [← eF3]
      refine MT.up ?_ (by omega)
      rw [← eF2]
      exact MT.up hM1 (by omega)
    have hc3 : F3 86 10 = nI (k + 1) := by rw [← eF3, up2_s]
    have c103 : ∀ p o f L, rs F3 p o f L 86 10 = nI (k + 1) := fun p o f L => (rs_x (by decide) (by decide) (by decide) (by decide)).trans hc3
    have o1 : ∀ a, a ≠ 86 → a ≠ 94 → F3 a = F a := fun a q1 q2 => by rw [← eF3, up2_o q1, ← eF2, up2_o q2, ← eF1, up2_o q2]
    have o2 : ∀ j, j ≠ 10 → F3 86 j = F 86 j := fun j q => by rw [← eF3, up2_j q, ← eF2, up2_o (by decide), ← eF1, up2_o (by decide)]
    have o3 : ∀ j, j < 2 * k → F3 94 j = F 94 j := fun j q => by rw [← eF3, up2_o (by decide), ← eF2, up2_j (by omega), ← eF1, up2_j (by omega)]
    have o4 : F3 94 (2 * k) = nI (L.length + s.2.2.length) := by rw [← eF3, up2_o (by decide), ← eF2, up2_j (by omega), ← eF1, up2_s, List.length_append]
    have o5 : F3 94 (2 * k + 1) = nI (L.length + s.2.2.length + t.2.2.length) := by rw [← eF3, up2_o (by decide), ← eF2, up2_s, List.length_append, List.length_append]
    have hLL : (L ++ s.2.2 ++ t.2.2).length ≤ t.1 := by rw [List.length_append, List.length_append]; omega
    have fin : ∀ H : mh_H, D_X12_reads_2 N (G + 1) H 86 (nI 0) = some H := fun H => by
      rw [D_X12_reads_2, if_pos (show nI 0 = 0 from rfl)]
    by_cases qa : (t.2.1 = 0 ∧ chL T t.1 = 59) ∧ 1 ≤ m
    · rw [if_pos qa]
      have hl := chL_lt (T := T) (p := t.1) (by omega)
      have ht := m_takeT (L := L ++ s.2.2 ++ t.2.2) (o := 0) hs hM3 N b2 qa.1.2 (by decide)
      obtain ⟨F', x1, x2, x3, x4, x5, x6, x7, x8, x9, x10, x11⟩ := ih (G + 1) (k + 1) (t.1 + 1) (L ++ s.2.2 ++ t.2.2) F3 (by omega) qa.2 (by omega) hM3 hc3 (by omega) (by omega)
      have qm := qa.2
      rw [qa.1.1]
      generalize pCs T u m (t.1 + 1) = r at *
      refine ⟨F', ?_, ?_, fun a q1 q2 => (x3 a q1 q2).trans (o1 a q1 q2), fun j q => (x4 j q).trans (o2 j q), fun j q => (x5 j (by omega)).trans (o3 j q), fun i hi => ?_, by dsimp only; rw [List.length_cons]; omega, x8, ?_, by dsimp only; rw [List.length_cons]; omega, x11⟩
      · dsimp only
        rw [cat, ← List.append_assoc, ← List.append_assoc]
        unfold D_X12_reads_54
        simp (disch := first | assumption | decide | omega) only [c101, rs_9, rs_u91, eF2, c102, rs_u10, eF3, c103, ht, D_X12_reads_104, x1, lit, lt64, ofI1, some_bind, if_ib', zB_ib, zBn0, zBn1, zBn, dN_n, nI_add, nI_mul, nI_md, nI_sub, nI_div, md, le_pred, lt_T, lt_F, le_T, le_F, eq_T, eq_F, ng_le, ng_lt, lt_ng, le_ng, eq_ng, max_n, min_n, and_true, true_and, and_false, false_and, and_self, if_true, if_false, ite_self, ↓reduceIte, m_in32, m_isC, m_isS, m_isJ hs, m_jnt, m_er hs, gr_86_0 hs, gr_86_1 hs, gr_86_2 hs, gr_86_4 hs, gr_86_5 hs, gr_86_6 hs, gr_86_7 hs, gr_86_8 hs, gr_86_15 hs, gr_86_16 hs, gr_86_17 hs, gr_86_18 hs, gr_86_19 hs, gr_86_20 hs, gr_86_21 hs, gr_86_27 hs, gr_86_28 hs, gr_86_29 hs, ko_86 hs, gi_86 hs, pi_86 hs, al_87 hs, ai_87 hs, ui_87 hs, al_88 hs, ai_88 hs, ui_88 hs, al_89 hs, ai_89 hs, ui_89 hs, al_90 hs, ai_90 hs, ui_90 hs, al_91 hs, ai_91 hs, ui_91 hs, al_92 hs, ai_92 hs, ui_92 hs, al_93 hs, ai_93 hs, ui_93 hs, al_94 hs, ai_94 hs, ui_94 hs, al_95 hs, ai_95 hs, ui_95 hs, al_96 hs, ai_96 hs, ui_96 hs, al_97 hs, ai_97 hs, ui_97 hs, al_98 hs, ai_98 hs, ui_98 hs, al_99 hs, ai_99 hs, ui_99 hs, al_100 hs, ai_100 hs, ui_100 hs, al_101 hs, ai_101 hs, ui_101 hs, al_102 hs, ai_102 hs, ui_102 hs, al_103 hs, ai_103 hs, ui_103 hs, al_104 hs, ai_104 hs, ui_104 hs]
      · rw [x2]; dsimp only; rw [List.length_cons, show k + 1 + r.2.2.length = k + (r.2.2.length + 1) by omega]
      · dsimp only at hi ⊢
        rw [List.length_cons] at hi
        rw [encL]
        rcases (show i = 0 ∨ i = 1 ∨ ∃ j, i = j + 2 by rcases i with _ | _ | j; exact Or.inl rfl; exact Or.inr (Or.inl rfl); exact Or.inr (Or.inr ⟨j, rfl⟩)) with rfl | rfl | ⟨j, rfl⟩
        · rw [Nat.add_zero, x5 (2 * k) (by omega), o4]; rfl
        · rw [x5 (2 * k + 1) (by omega), o5]; rfl
        · have := x6 j (by omega)
          rw [show 2 * (k + 1) + j = 2 * k + (j + 2) by omega] at this
          rw [this, List.length_append, List.length_append]
          rfl
      · dsimp only
        rw [cat, ← List.append_assoc, ← List.append_assoc]
        exact x9
    · rw [if_neg qa]
      have res : D_X12_reads_54 N (D_X12_reads_2 N (G + 1)) (mh_w h (gz (rs F1 t.1 0 t.2.1 (L ++ s.2.2 ++ t.2.2)) Z)) 86 = some (mh_w h (gz (rs F3 t.1 0 t.2.1 (L ++ s.2.2 ++ t.2.2)) Z)) := by
        unfold D_X12_reads_54
        by_cases k5 : 6 ≤ k + 1
        · simp (disch := first | assumption | decide | omega) only [c101, rs_9, rs_u91, eF2, c102, rs_u10, eF3, c103, D_X12_reads_103, D_X12_reads_104, fin, lit, lt64, ofI1, some_bind, if_ib', zB_ib, zBn0, zBn1, zBn, dN_n, nI_add, nI_mul, nI_md, nI_sub, nI_div, md, le_pred, lt_T, lt_F, le_T, le_F, eq_T, eq_F, ng_le, ng_lt, lt_ng, le_ng, eq_ng, max_n, min_n, and_true, true_and, and_false, false_and, and_self, if_true, if_false, ite_self, ↓reduceIte, m_in32, m_isC, m_isS, m_isJ hs, m_jnt, m_er hs, gr_86_0 hs, gr_86_1 hs, gr_86_2 hs, gr_86_4 hs, gr_86_5 hs, gr_86_6 hs, gr_86_7 hs, gr_86_8 hs, gr_86_15 hs, gr_86_16 hs, gr_86_17 hs, gr_86_18 hs, gr_86_19 hs, gr_86_20 hs, gr_86_21 hs, gr_86_27 hs, gr_86_28 hs, gr_86_29 hs, ko_86 hs, gi_86 hs, pi_86 hs, al_87 hs, ai_87 hs, ui_87 hs, al_88 hs, ai_88 hs, ui_88 hs, al_89 hs, ai_89 hs, ui_89 hs, al_90 hs, ai_90 hs, ui_90 hs, al_91 hs, ai_91 hs, ui_91 hs, al_92 hs, ai_92 hs, ui_92 hs, al_93 hs, ai_93 hs, ui_93 hs, al_94 hs, ai_94 hs, ui_94 hs, al_95 hs, ai_95 hs, ui_95 hs, al_96 hs, ai_96 hs, ui_96 hs, al_97 hs, ai_97 hs, ui_97 hs, al_98 hs, ai_98 hs, ui_98 hs, al_99 hs, ai_99 hs, ui_99 hs, al_100 hs, ai_100 hs, ui_100 hs, al_101 hs, ai_101 hs, ui_101 hs, al_102 hs, ai_102 hs, ui_102 hs, al_103 hs, ai_103 hs, ui_103 hs, al_104 hs, ai_104 hs, ui_104 hs]
        · have ht := m_takeF (L := L ++ s.2.2 ++ t.2.2) (o := 0) (s := 59) hs hM3 N b2 b3 (by decide) (fun e x => qa ⟨⟨e, x⟩, by omega⟩)
          simp (disch := first | assumption | decide | omega) only [c101, rs_9, rs_u91, eF2, c102, rs_u10, eF3, c103, ht, D_X12_reads_103, D_X12_reads_104, fin, lit, lt64, ofI1, some_bind, if_ib', zB_ib, zBn0, zBn1, zBn, dN_n, nI_add, nI_mul, nI_md, nI_sub, nI_div, md, le_pred, lt_T, lt_F, le_T, le_F, eq_T, eq_F, ng_le, ng_lt, lt_ng, le_ng, eq_ng, max_n, min_n, and_true, true_and, and_false, false_and, and_self, if_true, if_false, ite_self, ↓reduceIte, m_in32, m_isC, m_isS, m_isJ hs, m_jnt, m_er hs, gr_86_0 hs, gr_86_1 hs, gr_86_2 hs, gr_86_4 hs, gr_86_5 hs, gr_86_6 hs, gr_86_7 hs, gr_86_8 hs, gr_86_15 hs, gr_86_16 hs, gr_86_17 hs, gr_86_18 hs, gr_86_19 hs, gr_86_20 hs, gr_86_21 hs, gr_86_27 hs, gr_86_28 hs, gr_86_29 hs, ko_86 hs, gi_86 hs, pi_86 hs, al_87 hs, ai_87 hs, ui_87 hs, al_88 hs, ai_88 hs, ui_88 hs, al_89 hs, ai_89 hs, ui_89 hs, al_90 hs, ai_90 hs, ui_90 hs, al_91 hs, ai_91 hs, ui_91 hs, al_92 hs, ai_92 hs, ui_92 hs, al_93 hs, ai_93 hs, ui_93 hs, al_94 hs, ai_94 hs, ui_94 hs, al_95 hs, ai_95 hs, ui_95 hs, al_96 hs, ai_96 hs, ui_96 hs, al_97 hs, ai_97 hs, ui_97 hs, al_98 hs, ai_98 hs, ui_98 hs, al_99 hs, ai_99 hs, ui_99 hs, al_100 hs, ai_100 hs, ui_100 hs, al_101 hs, ai_101 hs, ui_101 hs, al_102 hs, ai_102 hs, ui_102 hs, al_103 hs, ai_103 hs, ui_103 hs, al_104 hs, ai_104 hs, ui_104 hs]
      refine ⟨F3, ?_, hc3, o1, o2, o3, fun i hi => ?_, h1, b2, ?_, Nat.le_refl _, b3⟩
      · rw [res]
        dsimp only
        rw [cat, cat, List.append_nil, ← List.append_assoc]
      · have hi : i < 2 := hi
        rcases (show i = 0 ∨ i = 1 by omega) with rfl | rfl
        · rw [Nat.add_zero, o4]; rfl
        · rw [o5]; rfl
      · dsimp only
        rw [cat, cat, List.append_nil, ← List.append_assoc]
        exact hLL
end T07
