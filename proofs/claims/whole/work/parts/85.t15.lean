section T15
variable {h h' h1 h2 : mh_H} {F F0 G G' R : F2} {C C' : C2} {Z Z' : Z1} {T L : List Nat} {N M j c n g s v : Nat} {TX : Nat → Nat → (Nat → Nat) → Z1 → Prop}
def sw (g v : Nat) : Nat := if nI g < nI v then 0 else 1
theorem sw_le : sw g v ≤ 1 := by
  unfold sw
  split <;> omega
theorem c_sees (hs : Sh h) (hs2 : Sh h2) (hN : 10000 ≤ N) (F0 : F2) (x1 : D_X10_seenAt N (mh_w h (cz F0 C)) 1 (nI j) (nI c) (nI (if n = 0 then 0 else 1)) 73 = some (nI v, mh_w h2 (cz F0 C'))) (e0 : C' 16 0 = Z 3) (e1 : C' 16 1 = Z 4) (n0 : C' 6 0 = Z 0) (f0 : C' 6 1 = Z 5) (hp : ∀ p, p < 40 → ∀ q, q < 4 → C' 17 (p * 4 + q) = Z (6916 + 4 * p + q)) (hB : B_all Z) (h60 : Z 4 < 60) (hc : c < 4) (hn : n ≤ 24) : D_X11_lookSees N (mh_w h (cz F0 C)) 0 (nI j) (nI c) (nI n) (nI g) = some (nI (sw g v), mh_w h2 (cz F0 (lkC C' (Z 4) j c (Z 0) n (sw g v) (Z 5) g (holesZ Z c (Z 3))))) := by
  have e32 : ∀ s, s ≤ 1 → D_X11_lookSees_32 N (mh_w h2 (cz F0 C')) 0 (nI j) (nI c) (nI n) (nI g) (nI s) = some (nI s, mh_w h2 (cz F0 (lkC C' (Z 4) j c (Z 0) n s (Z 5) g (holesZ Z c (Z 3))))) := fun s hs1 => by
    have al := c_addLook (j := j) (n := n) (g := g) hs2 hN F0 e0 e1 n0 f0 hp hB h60 hc hs1
    unfold D_X11_lookSees_32
    refine Eq.trans (bind_of (gr_0_0 hs2 _) _) ?_
    refine Eq.trans (bind_of (gr_1_8 hs2 _) _) ?_
    refine Eq.trans (bind_of (gr_0_0 hs2 _) _) ?_
    refine Eq.trans (bind_of (gr_1_7 hs2 _) _) ?_
    refine Eq.trans (kO_s hs2 _ (by decide) (by decide)) ?_
    refine Eq.trans (bind_of al _) ?_
    exact zBn hs1
  have e17 : D_X11_lookSees_17 N (mh_w h (cz F0 C)) 0 (nI j) (nI c) (nI n) (nI g) (nI g) 1 (nI j) (nI c) (nI (if n = 0 then 0 else 1)) = some (nI (sw g v), mh_w h2 (cz F0 (lkC C' (Z 4) j c (Z 0) n (sw g v) (Z 5) g (holesZ Z c (Z 3))))) := by
    unfold D_X11_lookSees_17 sw
    refine Eq.trans (bind_of (gr_0_3 hs _) _) ?_
    refine Eq.trans (kO_s hs _ (by decide) (by decide)) ?_
    refine Eq.trans (bind_of x1 _) ?_
    by_cases q : nI g < nI v
    · rw [if_pos q, if_pos q]
      exact e32 0 (by decide)
    · rw [if_neg q, if_neg q]
      exact e32 1 (by decide)
  unfold D_X11_lookSees
  refine Eq.trans (bind_of (gr_0_0 hs _) _) ?_
  by_cases q : n = 0
  · rw [if_pos q] at e17
    refine Eq.trans (if_pos (by rw [q]; rfl)) ?_
    exact e17
  · rw [if_neg q] at e17
    refine Eq.trans (if_neg (fun e => q ((nI_eq (by omega) (by decide)).mp (show nI n = nI 0 from e)))) ?_
    exact e17
theorem m_looks (hs : Sh h) (N : Nat) (F F' : F2) (x1 : D_X12_seenOf N (mh_w h (gz F Z)) 86 (nI j) (nI c) (nI (if n = 0 then 0 else 1)) = some (nI v, mh_w h (gz F' Z))) (h60 : Z 4 < 60) (hn : n ≤ 24) : D_X12_looks N (mh_w h (gz F Z)) 86 (nI j) (nI c) (nI n) (nI g) = some (nI (sw g v), mh_w h (gz F' (lkZ Z j c n (sw g v) g))) := by
  have e40 : ∀ s, s ≤ 1 → D_X12_looks_40 N (mh_w h (gz F' Z)) 86 (nI j) (nI c) (nI n) (nI g) (nI (7076 + 8 * Z 4)) (nI s) = some (nI s, mh_w h (gz F' (lkZ Z j c n s g))) := fun s hs1 => by
    rcases (show s = 0 ∨ s = 1 by omega) with rfl | rfl
    · unfold D_X12_looks_40 D_X12_looks_103
      repeat (first | ((with_reducible refine Eq.trans (kO_s hs _ ?_ ?_) ?_); decide; decide) | ((with_reducible refine Eq.trans (bind_of (a := ?_) ?_ _) ?_); rotate_left; (focus (simp (disch := first | assumption | decide | omega) only [upZ_n, ib0, ib1, not_true_eq_false, not_false_eq_true, lit, lt64, ofI1, some_bind, if_ib', zB_ib, zBn0, zBn1, zBn, dN_n, nI_add, nI_mul, nI_md, nI_sub, nI_div, md, le_pred, lt_T, lt_F, le_T, le_F, eq_T, eq_F, ng_le, ng_lt, lt_ng, le_ng, eq_ng, max_n, min_n, and_true, true_and, and_false, false_and, and_self, if_true, if_false, ite_self, ↓reduceIte, m_in32, m_isC, m_isS, m_isJ hs, m_jnt, m_er hs, gr_86_0 hs, gr_86_1 hs, gr_86_2 hs, gr_86_4 hs, gr_86_5 hs, gr_86_6 hs, gr_86_7 hs, gr_86_8 hs, gr_86_15 hs, gr_86_16 hs, gr_86_17 hs, gr_86_18 hs, gr_86_19 hs, gr_86_20 hs, gr_86_21 hs, gr_86_27 hs, gr_86_28 hs, gr_86_29 hs, ko_86 hs, gi_86 hs, pi_86 hs, al_87 hs, ai_87 hs, ui_87 hs, al_88 hs, ai_88 hs, ui_88 hs, al_89 hs, ai_89 hs, ui_89 hs, al_90 hs, ai_90 hs, ui_90 hs, al_91 hs, ai_91 hs, ui_91 hs, al_92 hs, ai_92 hs, ui_92 hs, al_93 hs, ai_93 hs, ui_93 hs, al_94 hs, ai_94 hs, ui_94 hs, al_95 hs, ai_95 hs, ui_95 hs, al_96 hs, ai_96 hs, ui_96 hs, al_97 hs, ai_97 hs, ui_97 hs, al_98 hs, ai_98 hs, ui_98 hs, al_99 hs, ai_99 hs, ui_99 hs, al_100 hs, ai_100 hs, ui_100 hs, al_101 hs, ai_101 hs, ui_101 hs, al_102 hs, ai_102 hs, ui_102 hs, al_103 hs, ai_103 hs, ui_103 hs, al_104 hs, ai_104 hs, ui_104 hs] <;> rfl)); try dsimp only) | ((with_reducible refine Eq.trans (if_pos ?_) ?_); (focus (simp (disch := first | assumption | decide | omega) only [upZ_n, ib0, ib1, not_true_eq_false, not_false_eq_true, lit, lt64, ofI1, some_bind, if_ib', zB_ib, zBn0, zBn1, zBn, dN_n, nI_add, nI_mul, nI_md, nI_sub, nI_div, md, le_pred, lt_T, lt_F, le_T, le_F, eq_T, eq_F, ng_le, ng_lt, lt_ng, le_ng, eq_ng, max_n, min_n, and_true, true_and, and_false, false_and, and_self, if_true, if_false, ite_self, ↓reduceIte, m_in32, m_isC, m_isS, m_isJ hs, m_jnt, m_er hs, gr_86_0 hs, gr_86_1 hs, gr_86_2 hs, gr_86_4 hs, gr_86_5 hs, gr_86_6 hs, gr_86_7 hs, gr_86_8 hs, gr_86_15 hs, gr_86_16 hs, gr_86_17 hs, gr_86_18 hs, gr_86_19 hs, gr_86_20 hs, gr_86_21 hs, gr_86_27 hs, gr_86_28 hs, gr_86_29 hs, ko_86 hs, gi_86 hs, pi_86 hs, al_87 hs, ai_87 hs, ui_87 hs, al_88 hs, ai_88 hs, ui_88 hs, al_89 hs, ai_89 hs, ui_89 hs, al_90 hs, ai_90 hs, ui_90 hs, al_91 hs, ai_91 hs, ui_91 hs, al_92 hs, ai_92 hs, ui_92 hs, al_93 hs, ai_93 hs, ui_93 hs, al_94 hs, ai_94 hs, ui_94 hs, al_95 hs, ai_95 hs, ui_95 hs, al_96 hs, ai_96 hs, ui_96 hs, al_97 hs, ai_97 hs, ui_97 hs, al_98 hs, ai_98 hs, ui_98 hs, al_99 hs, ai_99 hs, ui_99 hs, al_100 hs, ai_100 hs, ui_100 hs, al_101 hs, ai_101 hs, ui_101 hs, al_102 hs, ai_102 hs, ui_102 hs, al_103 hs, ai_103 hs, ui_103 hs, al_104 hs, ai_104 hs, ui_104 hs]; done)); try dsimp only) | ((with_reducible refine Eq.trans (if_neg ?_) ?_); (focus (simp (disch := first | assumption | decide | omega) only [upZ_n, ib0, ib1, not_true_eq_false, not_false_eq_true, lit, lt64, ofI1, some_bind, if_ib', zB_ib, zBn0, zBn1, zBn, dN_n, nI_add, nI_mul, nI_md, nI_sub, nI_div, md, le_pred, lt_T, lt_F, le_T, le_F, eq_T, eq_F, ng_le, ng_lt, lt_ng, le_ng, eq_ng, max_n, min_n, and_true, true_and, and_false, false_and, and_self, if_true, if_false, ite_self, ↓reduceIte, m_in32, m_isC, m_isS, m_isJ hs, m_jnt, m_er hs, gr_86_0 hs, gr_86_1 hs, gr_86_2 hs, gr_86_4 hs, gr_86_5 hs, gr_86_6 hs, gr_86_7 hs, gr_86_8 hs, gr_86_15 hs, gr_86_16 hs, gr_86_17 hs, gr_86_18 hs, gr_86_19 hs, gr_86_20 hs, gr_86_21 hs, gr_86_27 hs, gr_86_28 hs, gr_86_29 hs, ko_86 hs, gi_86 hs, pi_86 hs, al_87 hs, ai_87 hs, ui_87 hs, al_88 hs, ai_88 hs, ui_88 hs, al_89 hs, ai_89 hs, ui_89 hs, al_90 hs, ai_90 hs, ui_90 hs, al_91 hs, ai_91 hs, ui_91 hs, al_92 hs, ai_92 hs, ui_92 hs, al_93 hs, ai_93 hs, ui_93 hs, al_94 hs, ai_94 hs, ui_94 hs, al_95 hs, ai_95 hs, ui_95 hs, al_96 hs, ai_96 hs, ui_96 hs, al_97 hs, ai_97 hs, ui_97 hs, al_98 hs, ai_98 hs, ui_98 hs, al_99 hs, ai_99 hs, ui_99 hs, al_100 hs, ai_100 hs, ui_100 hs, al_101 hs, ai_101 hs, ui_101 hs, al_102 hs, ai_102 hs, ui_102 hs, al_103 hs, ai_103 hs, ui_103 hs, al_104 hs, ai_104 hs, ui_104 hs]; done)); try dsimp only) | (with_reducible refine Eq.trans dN24 ?_) | (with_reducible refine Eq.trans dN100 ?_) | ((with_reducible refine Eq.trans (dN_n ?_ ?_) ?_); omega; omega))
      try simp (disch := first | assumption | decide | omega) only [upZ_n, ib0, ib1, not_true_eq_false, not_false_eq_true, lit, lt64, ofI1, some_bind, if_ib', zB_ib, zBn0, zBn1, zBn, dN_n, nI_add, nI_mul, nI_md, nI_sub, nI_div, md, le_pred, lt_T, lt_F, le_T, le_F, eq_T, eq_F, ng_le, ng_lt, lt_ng, le_ng, eq_ng, max_n, min_n, and_true, true_and, and_false, false_and, and_self, if_true, if_false, ite_self, ↓reduceIte, m_in32, m_isC, m_isS, m_isJ hs, m_jnt, m_er hs, gr_86_0 hs, gr_86_1 hs, gr_86_2 hs, gr_86_4 hs, gr_86_5 hs, gr_86_6 hs, gr_86_7 hs, gr_86_8 hs, gr_86_15 hs, gr_86_16 hs, gr_86_17 hs, gr_86_18 hs, gr_86_19 hs, gr_86_20 hs, gr_86_21 hs, gr_86_27 hs, gr_86_28 hs, gr_86_29 hs, ko_86 hs, gi_86 hs, pi_86 hs, al_87 hs, ai_87 hs, ui_87 hs, al_88 hs, ai_88 hs, ui_88 hs, al_89 hs, ai_89 hs, ui_89 hs, al_90 hs, ai_90 hs, ui_90 hs, al_91 hs, ai_91 hs, ui_91 hs, al_92 hs, ai_92 hs, ui_92 hs, al_93 hs, ai_93 hs, ui_93 hs, al_94 hs, ai_94 hs, ui_94 hs, al_95 hs, ai_95 hs, ui_95 hs, al_96 hs, ai_96 hs, ui_96 hs, al_97 hs, ai_97 hs, ui_97 hs, al_98 hs, ai_98 hs, ui_98 hs, al_99 hs, ai_99 hs, ui_99 hs, al_100 hs, ai_100 hs, ui_100 hs, al_101 hs, ai_101 hs, ui_101 hs, al_102 hs, ai_102 hs, ui_102 hs, al_103 hs, ai_103 hs, ui_103 hs, al_104 hs, ai_104 hs, ui_104 hs]
      rfl
    · unfold D_X12_looks_40 D_X12_looks_103
      repeat (first | ((with_reducible refine Eq.trans (kO_s hs _ ?_ ?_) ?_); decide; decide) | ((with_reducible refine Eq.trans (bind_of (a := ?_) ?_ _) ?_); rotate_left; (focus (simp (disch := first | assumption | decide | omega) only [upZ_n, ib0, ib1, not_true_eq_false, not_false_eq_true, lit, lt64, ofI1, some_bind, if_ib', zB_ib, zBn0, zBn1, zBn, dN_n, nI_add, nI_mul, nI_md, nI_sub, nI_div, md, le_pred, lt_T, lt_F, le_T, le_F, eq_T, eq_F, ng_le, ng_lt, lt_ng, le_ng, eq_ng, max_n, min_n, and_true, true_and, and_false, false_and, and_self, if_true, if_false, ite_self, ↓reduceIte, m_in32, m_isC, m_isS, m_isJ hs, m_jnt, m_er hs, gr_86_0 hs, gr_86_1 hs, gr_86_2 hs, gr_86_4 hs, gr_86_5 hs, gr_86_6 hs, gr_86_7 hs, gr_86_8 hs, gr_86_15 hs, gr_86_16 hs, gr_86_17 hs, gr_86_18 hs, gr_86_19 hs, gr_86_20 hs, gr_86_21 hs, gr_86_27 hs, gr_86_28 hs, gr_86_29 hs, ko_86 hs, gi_86 hs, pi_86 hs, al_87 hs, ai_87 hs, ui_87 hs, al_88 hs, ai_88 hs, ui_88 hs, al_89 hs, ai_89 hs, ui_89 hs, al_90 hs, ai_90 hs, ui_90 hs, al_91 hs, ai_91 hs, ui_91 hs, al_92 hs, ai_92 hs, ui_92 hs, al_93 hs, ai_93 hs, ui_93 hs, al_94 hs, ai_94 hs, ui_94 hs, al_95 hs, ai_95 hs, ui_95 hs, al_96 hs, ai_96 hs, ui_96 hs, al_97 hs, ai_97 hs, ui_97 hs, al_98 hs, ai_98 hs, ui_98 hs, al_99 hs, ai_99 hs, ui_99 hs, al_100 hs, ai_100 hs, ui_100 hs, al_101 hs, ai_101 hs, ui_101 hs, al_102 hs, ai_102 hs, ui_102 hs, al_103 hs, ai_103 hs, ui_103 hs, al_104 hs, ai_104 hs, ui_104 hs] <;> rfl)); try dsimp only) | ((with_reducible refine Eq.trans (if_pos ?_) ?_); (focus (simp (disch := first | assumption | decide | omega) only [upZ_n, ib0, ib1, not_true_eq_false, not_false_eq_true, lit, lt64, ofI1, some_bind, if_ib', zB_ib, zBn0, zBn1, zBn, dN_n, nI_add, nI_mul, nI_md, nI_sub, nI_div, md, le_pred, lt_T, lt_F, le_T, le_F, eq_T, eq_F, ng_le, ng_lt, lt_ng, le_ng, eq_ng, max_n, min_n, and_true, true_and, and_false, false_and, and_self, if_true, if_false, ite_self, ↓reduceIte, m_in32, m_isC, m_isS, m_isJ hs, m_jnt, m_er hs, gr_86_0 hs, gr_86_1 hs, gr_86_2 hs, gr_86_4 hs, gr_86_5 hs, gr_86_6 hs, gr_86_7 hs, gr_86_8 hs, gr_86_15 hs, gr_86_16 hs, gr_86_17 hs, gr_86_18 hs, gr_86_19 hs, gr_86_20 hs, gr_86_21 hs, gr_86_27 hs, gr_86_28 hs, gr_86_29 hs, ko_86 hs, gi_86 hs, pi_86 hs, al_87 hs, ai_87 hs, ui_87 hs, al_88 hs, ai_88 hs, ui_88 hs, al_89 hs, ai_89 hs, ui_89 hs, al_90 hs, ai_90 hs, ui_90 hs, al_91 hs, ai_91 hs, ui_91 hs, al_92 hs, ai_92 hs, ui_92 hs, al_93 hs, ai_93 hs, ui_93 hs, al_94 hs, ai_94 hs, ui_94 hs, al_95 hs, ai_95 hs, ui_95 hs, al_96 hs, ai_96 hs, ui_96 hs, al_97 hs, ai_97 hs, ui_97 hs, al_98 hs, ai_98 hs, ui_98 hs, al_99 hs, ai_99 hs, ui_99 hs, al_100 hs, ai_100 hs, ui_100 hs, al_101 hs, ai_101 hs, ui_101 hs, al_102 hs, ai_102 hs, ui_102 hs, al_103 hs, ai_103 hs, ui_103 hs, al_104 hs, ai_104 hs, ui_104 hs]; done)); try dsimp only) | ((with_reducible refine Eq.trans (if_neg ?_) ?_); (focus (simp (disch := first | assumption | decide | omega) only [upZ_n, ib0, ib1, not_true_eq_false, not_false_eq_true, lit, lt64, ofI1, some_bind, if_ib', zB_ib, zBn0, zBn1, zBn, dN_n, nI_add, nI_mul, nI_md, nI_sub, nI_div, md, le_pred, lt_T, lt_F, le_T, le_F, eq_T, eq_F, ng_le, ng_lt, lt_ng, le_ng, eq_ng, max_n, min_n, and_true, true_and, and_false, false_and, and_self, if_true, if_false, ite_self, ↓reduceIte, m_in32, m_isC, m_isS, m_isJ hs, m_jnt, m_er hs, gr_86_0 hs, gr_86_1 hs, gr_86_2 hs, gr_86_4 hs, gr_86_5 hs, gr_86_6 hs, gr_86_7 hs, gr_86_8 hs, gr_86_15 hs, gr_86_16 hs, gr_86_17 hs, gr_86_18 hs, gr_86_19 hs, gr_86_20 hs, gr_86_21 hs, gr_86_27 hs, gr_86_28 hs, gr_86_29 hs, ko_86 hs, gi_86 hs, pi_86 hs, al_87 hs, ai_87 hs, ui_87 hs, al_88 hs, ai_88 hs, ui_88 hs, al_89 hs, ai_89 hs, ui_89 hs, al_90 hs, ai_90 hs, ui_90 hs, al_91 hs, ai_91 hs, ui_91 hs, al_92 hs, ai_92 hs, ui_92 hs, al_93 hs, ai_93 hs, ui_93 hs, al_94 hs, ai_94 hs, ui_94 hs, al_95 hs, ai_95 hs, ui_95 hs, al_96 hs, ai_96 hs, ui_96 hs, al_97 hs, ai_97 hs, ui_97 hs, al_98 hs, ai_98 hs, ui_98 hs, al_99 hs, ai_99 hs, ui_99 hs, al_100 hs, ai_100 hs, ui_100 hs, al_101 hs, ai_101 hs, ui_101 hs, al_102 hs, ai_102 hs, ui_102 hs, al_103 hs, ai_103 hs, ui_103 hs, al_104 hs, ai_104 hs, ui_104 hs]; done)); try dsimp only) | (with_reducible refine Eq.trans dN24 ?_) | (with_reducible refine Eq.trans dN100 ?_) | ((with_reducible refine Eq.trans (dN_n ?_ ?_) ?_); omega; omega))
      try simp (disch := first | assumption | decide | omega) only [upZ_n, ib0, ib1, not_true_eq_false, not_false_eq_true, lit, lt64, ofI1, some_bind, if_ib', zB_ib, zBn0, zBn1, zBn, dN_n, nI_add, nI_mul, nI_md, nI_sub, nI_div, md, le_pred, lt_T, lt_F, le_T, le_F, eq_T, eq_F, ng_le, ng_lt, lt_ng, le_ng, eq_ng, max_n, min_n, and_true, true_and, and_false, false_and, and_self, if_true, if_false, ite_self, ↓reduceIte, m_in32, m_isC, m_isS, m_isJ hs, m_jnt, m_er hs, gr_86_0 hs, gr_86_1 hs, gr_86_2 hs, gr_86_4 hs, gr_86_5 hs, gr_86_6 hs, gr_86_7 hs, gr_86_8 hs, gr_86_15 hs, gr_86_16 hs, gr_86_17 hs, gr_86_18 hs, gr_86_19 hs, gr_86_20 hs, gr_86_21 hs, gr_86_27 hs, gr_86_28 hs, gr_86_29 hs, ko_86 hs, gi_86 hs, pi_86 hs, al_87 hs, ai_87 hs, ui_87 hs, al_88 hs, ai_88 hs, ui_88 hs, al_89 hs, ai_89 hs, ui_89 hs, al_90 hs, ai_90 hs, ui_90 hs, al_91 hs, ai_91 hs, ui_91 hs, al_92 hs, ai_92 hs, ui_92 hs, al_93 hs, ai_93 hs, ui_93 hs, al_94 hs, ai_94 hs, ui_94 hs, al_95 hs, ai_95 hs, ui_95 hs, al_96 hs, ai_96 hs, ui_96 hs, al_97 hs, ai_97 hs, ui_97 hs, al_98 hs, ai_98 hs, ui_98 hs, al_99 hs, ai_99 hs, ui_99 hs, al_100 hs, ai_100 hs, ui_100 hs, al_101 hs, ai_101 hs, ui_101 hs, al_102 hs, ai_102 hs, ui_102 hs, al_103 hs, ai_103 hs, ui_103 hs, al_104 hs, ai_104 hs, ui_104 hs]
      rfl
  have e29 : D_X12_looks_29 N (mh_w h (gz F Z)) 86 (nI j) (nI c) (nI n) (nI g) (nI (7076 + 8 * Z 4)) (nI g) 86 (nI j) (nI c) (nI (if n = 0 then 0 else 1)) = some (nI (sw g v), mh_w h (gz F' (lkZ Z j c n (sw g v) g))) := by
    unfold D_X12_looks_29 sw
    refine Eq.trans (kO_s hs _ (by decide) (by decide)) ?_
    refine Eq.trans (bind_of x1 _) ?_
    by_cases q : nI g < nI v
    · rw [if_pos q, if_pos q]
      exact e40 0 (by decide)
    · rw [if_neg q, if_neg q]
      exact e40 1 (by decide)
  by_cases q : n = 0
  · subst q
    rw [if_pos rfl] at e29
    unfold D_X12_looks
    repeat (first | ((with_reducible refine Eq.trans (kO_s hs _ ?_ ?_) ?_); decide; decide) | ((with_reducible refine Eq.trans (bind_of (a := ?_) ?_ _) ?_); rotate_left; (focus (simp (disch := first | assumption | decide | omega) only [e29, ib0, ib1, not_true_eq_false, not_false_eq_true, lit, lt64, ofI1, some_bind, if_ib', zB_ib, zBn0, zBn1, zBn, dN_n, nI_add, nI_mul, nI_md, nI_sub, nI_div, md, le_pred, lt_T, lt_F, le_T, le_F, eq_T, eq_F, ng_le, ng_lt, lt_ng, le_ng, eq_ng, max_n, min_n, and_true, true_and, and_false, false_and, and_self, if_true, if_false, ite_self, ↓reduceIte, m_in32, m_isC, m_isS, m_isJ hs, m_jnt, m_er hs, gr_86_0 hs, gr_86_1 hs, gr_86_2 hs, gr_86_4 hs, gr_86_5 hs, gr_86_6 hs, gr_86_7 hs, gr_86_8 hs, gr_86_15 hs, gr_86_16 hs, gr_86_17 hs, gr_86_18 hs, gr_86_19 hs, gr_86_20 hs, gr_86_21 hs, gr_86_27 hs, gr_86_28 hs, gr_86_29 hs, ko_86 hs, gi_86 hs, pi_86 hs, al_87 hs, ai_87 hs, ui_87 hs, al_88 hs, ai_88 hs, ui_88 hs, al_89 hs, ai_89 hs, ui_89 hs, al_90 hs, ai_90 hs, ui_90 hs, al_91 hs, ai_91 hs, ui_91 hs, al_92 hs, ai_92 hs, ui_92 hs, al_93 hs, ai_93 hs, ui_93 hs, al_94 hs, ai_94 hs, ui_94 hs, al_95 hs, ai_95 hs, ui_95 hs, al_96 hs, ai_96 hs, ui_96 hs, al_97 hs, ai_97 hs, ui_97 hs, al_98 hs, ai_98 hs, ui_98 hs, al_99 hs, ai_99 hs, ui_99 hs, al_100 hs, ai_100 hs, ui_100 hs, al_101 hs, ai_101 hs, ui_101 hs, al_102 hs, ai_102 hs, ui_102 hs, al_103 hs, ai_103 hs, ui_103 hs, al_104 hs, ai_104 hs, ui_104 hs] <;> rfl)); try dsimp only) | ((with_reducible refine Eq.trans (if_pos ?_) ?_); (focus (simp (disch := first | assumption | decide | omega) only [e29, ib0, ib1, not_true_eq_false, not_false_eq_true, lit, lt64, ofI1, some_bind, if_ib', zB_ib, zBn0, zBn1, zBn, dN_n, nI_add, nI_mul, nI_md, nI_sub, nI_div, md, le_pred, lt_T, lt_F, le_T, le_F, eq_T, eq_F, ng_le, ng_lt, lt_ng, le_ng, eq_ng, max_n, min_n, and_true, true_and, and_false, false_and, and_self, if_true, if_false, ite_self, ↓reduceIte, m_in32, m_isC, m_isS, m_isJ hs, m_jnt, m_er hs, gr_86_0 hs, gr_86_1 hs, gr_86_2 hs, gr_86_4 hs, gr_86_5 hs, gr_86_6 hs, gr_86_7 hs, gr_86_8 hs, gr_86_15 hs, gr_86_16 hs, gr_86_17 hs, gr_86_18 hs, gr_86_19 hs, gr_86_20 hs, gr_86_21 hs, gr_86_27 hs, gr_86_28 hs, gr_86_29 hs, ko_86 hs, gi_86 hs, pi_86 hs, al_87 hs, ai_87 hs, ui_87 hs, al_88 hs, ai_88 hs, ui_88 hs, al_89 hs, ai_89 hs, ui_89 hs, al_90 hs, ai_90 hs, ui_90 hs, al_91 hs, ai_91 hs, ui_91 hs, al_92 hs, ai_92 hs, ui_92 hs, al_93 hs, ai_93 hs, ui_93 hs, al_94 hs, ai_94 hs, ui_94 hs, al_95 hs, ai_95 hs, ui_95 hs, al_96 hs, ai_96 hs, ui_96 hs, al_97 hs, ai_97 hs, ui_97 hs, al_98 hs, ai_98 hs, ui_98 hs, al_99 hs, ai_99 hs, ui_99 hs, al_100 hs, ai_100 hs, ui_100 hs, al_101 hs, ai_101 hs, ui_101 hs, al_102 hs, ai_102 hs, ui_102 hs, al_103 hs, ai_103 hs, ui_103 hs, al_104 hs, ai_104 hs, ui_104 hs]; done)); try dsimp only) | ((with_reducible refine Eq.trans (if_neg ?_) ?_); (focus (simp (disch := first | assumption | decide | omega) only [e29, ib0, ib1, not_true_eq_false, not_false_eq_true, lit, lt64, ofI1, some_bind, if_ib', zB_ib, zBn0, zBn1, zBn, dN_n, nI_add, nI_mul, nI_md, nI_sub, nI_div, md, le_pred, lt_T, lt_F, le_T, le_F, eq_T, eq_F, ng_le, ng_lt, lt_ng, le_ng, eq_ng, max_n, min_n, and_true, true_and, and_false, false_and, and_self, if_true, if_false, ite_self, ↓reduceIte, m_in32, m_isC, m_isS, m_isJ hs, m_jnt, m_er hs, gr_86_0 hs, gr_86_1 hs, gr_86_2 hs, gr_86_4 hs, gr_86_5 hs, gr_86_6 hs, gr_86_7 hs, gr_86_8 hs, gr_86_15 hs, gr_86_16 hs, gr_86_17 hs, gr_86_18 hs, gr_86_19 hs, gr_86_20 hs, gr_86_21 hs, gr_86_27 hs, gr_86_28 hs, gr_86_29 hs, ko_86 hs, gi_86 hs, pi_86 hs, al_87 hs, ai_87 hs, ui_87 hs, al_88 hs, ai_88 hs, ui_88 hs, al_89 hs, ai_89 hs, ui_89 hs, al_90 hs, ai_90 hs, ui_90 hs, al_91 hs, ai_91 hs, ui_91 hs, al_92 hs, ai_92 hs, ui_92 hs, al_93 hs, ai_93 hs, ui_93 hs, al_94 hs, ai_94 hs, ui_94 hs, al_95 hs, ai_95 hs, ui_95 hs, al_96 hs, ai_96 hs, ui_96 hs, al_97 hs, ai_97 hs, ui_97 hs, al_98 hs, ai_98 hs, ui_98 hs, al_99 hs, ai_99 hs, ui_99 hs, al_100 hs, ai_100 hs, ui_100 hs, al_101 hs, ai_101 hs, ui_101 hs, al_102 hs, ai_102 hs, ui_102 hs, al_103 hs, ai_103 hs, ui_103 hs, al_104 hs, ai_104 hs, ui_104 hs]; done)); try dsimp only) | (with_reducible refine Eq.trans dN24 ?_) | (with_reducible refine Eq.trans dN100 ?_) | ((with_reducible refine Eq.trans (dN_n ?_ ?_) ?_); omega; omega))
    try simp (disch := first | assumption | decide | omega) only [e29, ib0, ib1, not_true_eq_false, not_false_eq_true, lit, lt64, ofI1, some_bind, if_ib', zB_ib, zBn0, zBn1, zBn, dN_n, nI_add, nI_mul, nI_md, nI_sub, nI_div, md, le_pred, lt_T, lt_F, le_T, le_F, eq_T, eq_F, ng_le, ng_lt, lt_ng, le_ng, eq_ng, max_n, min_n, and_true, true_and, and_false, false_and, and_self, if_true, if_false, ite_self, ↓reduceIte, m_in32, m_isC, m_isS, m_isJ hs, m_jnt, m_er hs, gr_86_0 hs, gr_86_1 hs, gr_86_2 hs, gr_86_4 hs, gr_86_5 hs, gr_86_6 hs, gr_86_7 hs, gr_86_8 hs, gr_86_15 hs, gr_86_16 hs, gr_86_17 hs, gr_86_18 hs, gr_86_19 hs, gr_86_20 hs, gr_86_21 hs, gr_86_27 hs, gr_86_28 hs, gr_86_29 hs, ko_86 hs, gi_86 hs, pi_86 hs, al_87 hs, ai_87 hs, ui_87 hs, al_88 hs, ai_88 hs, ui_88 hs, al_89 hs, ai_89 hs, ui_89 hs, al_90 hs, ai_90 hs, ui_90 hs, al_91 hs, ai_91 hs, ui_91 hs, al_92 hs, ai_92 hs, ui_92 hs, al_93 hs, ai_93 hs, ui_93 hs, al_94 hs, ai_94 hs, ui_94 hs, al_95 hs, ai_95 hs, ui_95 hs, al_96 hs, ai_96 hs, ui_96 hs, al_97 hs, ai_97 hs, ui_97 hs, al_98 hs, ai_98 hs, ui_98 hs, al_99 hs, ai_99 hs, ui_99 hs, al_100 hs, ai_100 hs, ui_100 hs, al_101 hs, ai_101 hs, ui_101 hs, al_102 hs, ai_102 hs, ui_102 hs, al_103 hs, ai_103 hs, ui_103 hs, al_104 hs, ai_104 hs, ui_104 hs]
  · rw [if_neg q] at e29
    unfold D_X12_looks
    repeat (first | ((with_reducible refine Eq.trans (kO_s hs _ ?_ ?_) ?_); decide; decide) | ((with_reducible refine Eq.trans (bind_of (a := ?_) ?_ _) ?_); rotate_left; (focus (simp (disch := first | assumption | decide | omega) only [e29, ib0, ib1, not_true_eq_false, not_false_eq_true, lit, lt64, ofI1, some_bind, if_ib', zB_ib, zBn0, zBn1, zBn, dN_n, nI_add, nI_mul, nI_md, nI_sub, nI_div, md, le_pred, lt_T, lt_F, le_T, le_F, eq_T, eq_F, ng_le, ng_lt, lt_ng, le_ng, eq_ng, max_n, min_n, and_true, true_and, and_false, false_and, and_self, if_true, if_false, ite_self, ↓reduceIte, m_in32, m_isC, m_isS, m_isJ hs, m_jnt, m_er hs, gr_86_0 hs, gr_86_1 hs, gr_86_2 hs, gr_86_4 hs, gr_86_5 hs, gr_86_6 hs, gr_86_7 hs, gr_86_8 hs, gr_86_15 hs, gr_86_16 hs, gr_86_17 hs, gr_86_18 hs, gr_86_19 hs, gr_86_20 hs, gr_86_21 hs, gr_86_27 hs, gr_86_28 hs, gr_86_29 hs, ko_86 hs, gi_86 hs, pi_86 hs, al_87 hs, ai_87 hs, ui_87 hs, al_88 hs, ai_88 hs, ui_88 hs, al_89 hs, ai_89 hs, ui_89 hs, al_90 hs, ai_90 hs, ui_90 hs, al_91 hs, ai_91 hs, ui_91 hs, al_92 hs, ai_92 hs, ui_92 hs, al_93 hs, ai_93 hs, ui_93 hs, al_94 hs, ai_94 hs, ui_94 hs, al_95 hs, ai_95 hs, ui_95 hs, al_96 hs, ai_96 hs, ui_96 hs, al_97 hs, ai_97 hs, ui_97 hs, al_98 hs, ai_98 hs, ui_98 hs, al_99 hs, ai_99 hs, ui_99 hs, al_100 hs, ai_100 hs, ui_100 hs, al_101 hs, ai_101 hs, ui_101 hs, al_102 hs, ai_102 hs, ui_102 hs, al_103 hs, ai_103 hs, ui_103 hs, al_104 hs, ai_104 hs, ui_104 hs] <;> rfl)); try dsimp only) | ((with_reducible refine Eq.trans (if_pos ?_) ?_); (focus (simp (disch := first | assumption | decide | omega) only [e29, ib0, ib1, not_true_eq_false, not_false_eq_true, lit, lt64, ofI1, some_bind, if_ib', zB_ib, zBn0, zBn1, zBn, dN_n, nI_add, nI_mul, nI_md, nI_sub, nI_div, md, le_pred, lt_T, lt_F, le_T, le_F, eq_T, eq_F, ng_le, ng_lt, lt_ng, le_ng, eq_ng, max_n, min_n, and_true, true_and, and_false, false_and, and_self, if_true, if_false, ite_self, ↓reduceIte, m_in32, m_isC, m_isS, m_isJ hs, m_jnt, m_er hs, gr_86_0 hs, gr_86_1 hs, gr_86_2 hs, gr_86_4 hs, gr_86_5 hs, gr_86_6 hs, gr_86_7 hs, gr_86_8 hs, gr_86_15 hs, gr_86_16 hs, gr_86_17 hs, gr_86_18 hs, gr_86_19 hs, gr_86_20 hs, gr_86_21 hs, gr_86_27 hs, gr_86_28 hs, gr_86_29 hs, ko_86 hs, gi_86 hs, pi_86 hs, al_87 hs, ai_87 hs, ui_87 hs, al_88 hs, ai_88 hs, ui_88 hs, al_89 hs, ai_89 hs, ui_89 hs, al_90 hs, ai_90 hs, ui_90 hs, al_91 hs, ai_91 hs, ui_91 hs, al_92 hs, ai_92 hs, ui_92 hs, al_93 hs, ai_93 hs, ui_93 hs, al_94 hs, ai_94 hs, ui_94 hs, al_95 hs, ai_95 hs, ui_95 hs, al_96 hs, ai_96 hs, ui_96 hs, al_97 hs, ai_97 hs, ui_97 hs, al_98 hs, ai_98 hs, ui_98 hs, al_99 hs, ai_99 hs, ui_99 hs, al_100 hs, ai_100 hs, ui_100 hs, al_101 hs, ai_101 hs, ui_101 hs, al_102 hs, ai_102 hs, ui_102 hs, al_103 hs, ai_103 hs, ui_103 hs, al_104 hs, ai_104 hs, ui_104 hs]; done)); try dsimp only) | ((with_reducible refine Eq.trans (if_neg ?_) ?_); (focus (simp (disch := first | assumption | decide | omega) only [e29, ib0, ib1, not_true_eq_false, not_false_eq_true, lit, lt64, ofI1, some_bind, if_ib', zB_ib, zBn0, zBn1, zBn, dN_n, nI_add, nI_mul, nI_md, nI_sub, nI_div, md, le_pred, lt_T, lt_F, le_T, le_F, eq_T, eq_F, ng_le, ng_lt, lt_ng, le_ng, eq_ng, max_n, min_n, and_true, true_and, and_false, false_and, and_self, if_true, if_false, ite_self, ↓reduceIte, m_in32, m_isC, m_isS, m_isJ hs, m_jnt, m_er hs, gr_86_0 hs, gr_86_1 hs, gr_86_2 hs, gr_86_4 hs, gr_86_5 hs, gr_86_6 hs, gr_86_7 hs, gr_86_8 hs, gr_86_15 hs, gr_86_16 hs, gr_86_17 hs, gr_86_18 hs, gr_86_19 hs, gr_86_20 hs, gr_86_21 hs, gr_86_27 hs, gr_86_28 hs, gr_86_29 hs, ko_86 hs, gi_86 hs, pi_86 hs, al_87 hs, ai_87 hs, ui_87 hs, al_88 hs, ai_88 hs, ui_88 hs, al_89 hs, ai_89 hs, ui_89 hs, al_90 hs, ai_90 hs, ui_90 hs, al_91 hs, ai_91 hs, ui_91 hs, al_92 hs, ai_92 hs, ui_92 hs, al_93 hs, ai_93 hs, ui_93 hs, al_94 hs, ai_94 hs, ui_94 hs, al_95 hs, ai_95 hs, ui_95 hs, al_96 hs, ai_96 hs, ui_96 hs, al_97 hs, ai_97 hs, ui_97 hs, al_98 hs, ai_98 hs, ui_98 hs, al_99 hs, ai_99 hs, ui_99 hs, al_100 hs, ai_100 hs, ui_100 hs, al_101 hs, ai_101 hs, ui_101 hs, al_102 hs, ai_102 hs, ui_102 hs, al_103 hs, ai_103 hs, ui_103 hs, al_104 hs, ai_104 hs, ui_104 hs]; done)); try dsimp only) | (with_reducible refine Eq.trans dN24 ?_) | (with_reducible refine Eq.trans dN100 ?_) | ((with_reducible refine Eq.trans (dN_n ?_ ?_) ?_); omega; omega))
    try simp (disch := first | assumption | decide | omega) only [e29, ib0, ib1, not_true_eq_false, not_false_eq_true, lit, lt64, ofI1, some_bind, if_ib', zB_ib, zBn0, zBn1, zBn, dN_n, nI_add, nI_mul, nI_md, nI_sub, nI_div, md, le_pred, lt_T, lt_F, le_T, le_F, eq_T, eq_F, ng_le, ng_lt, lt_ng, le_ng, eq_ng, max_n, min_n, and_true, true_and, and_false, false_and, and_self, if_true, if_false, ite_self, ↓reduceIte, m_in32, m_isC, m_isS, m_isJ hs, m_jnt, m_er hs, gr_86_0 hs, gr_86_1 hs, gr_86_2 hs, gr_86_4 hs, gr_86_5 hs, gr_86_6 hs, gr_86_7 hs, gr_86_8 hs, gr_86_15 hs, gr_86_16 hs, gr_86_17 hs, gr_86_18 hs, gr_86_19 hs, gr_86_20 hs, gr_86_21 hs, gr_86_27 hs, gr_86_28 hs, gr_86_29 hs, ko_86 hs, gi_86 hs, pi_86 hs, al_87 hs, ai_87 hs, ui_87 hs, al_88 hs, ai_88 hs, ui_88 hs, al_89 hs, ai_89 hs, ui_89 hs, al_90 hs, ai_90 hs, ui_90 hs, al_91 hs, ai_91 hs, ui_91 hs, al_92 hs, ai_92 hs, ui_92 hs, al_93 hs, ai_93 hs, ui_93 hs, al_94 hs, ai_94 hs, ui_94 hs, al_95 hs, ai_95 hs, ui_95 hs, al_96 hs, ai_96 hs, ui_96 hs, al_97 hs, ai_97 hs, ui_97 hs, al_98 hs, ai_98 hs, ui_98 hs, al_99 hs, ai_99 hs, ui_99 hs, al_100 hs, ai_100 hs, ui_100 hs, al_101 hs, ai_101 hs, ui_101 hs, al_102 hs, ai_102 hs, ui_102 hs, al_103 hs, ai_103 hs, ui_103 hs, al_104 hs, ai_104 hs, ui_104 hs]
/-- a look more -/
theorem look_ok (hTX : TXc TX) (hR : R_all TX h G Z C) (hj : j < Z 1) (h2 : Z (44 + 11 * j) = 2) (hc : c < 4) (hn : n ≤ 24) (hs1 : s ≤ 1) (h60 : Z 4 < 60) (hsaw : s = 1 → ∃ p, p < Z 3 ∧ Z (6917 + 4 * p) = c) : R_all TX h G (lkZ Z j c n s g) (lkC C (Z 4) j c (Z 0) n s (Z 5) g (holesZ Z c (Z 3))) := by
  have hw := hR.2.2.2.2.1
  obtain ⟨⟨⟨c0, c1, c2, c3, c4, c5, c6, c7, c8⟩, bj, bw, bp, bl, bs, bn⟩, g1, g2, g3, g4, g5, g6, g7, g8, g9⟩ := hw
  have zo : ∀ k, k ≠ 4 → ¬ (7076 + 8 * Z 4 ≤ k ∧ k < 7084 + 8 * Z 4) → lkZ Z j c n s g k = Z k := fun k k1 k2 => by
    unfold lkZ
    rw [upZ_n k1, upZ_n (by omega), upZ_n (by omega), upZ_n (by omega), upZ_n (by omega), upZ_n (by omega), upZ_n (by omega), upZ_n (by omega), upZ_n (by omega)]
  have z4 : lkZ Z j c n s g 4 = Z 4 + 1 := upZ_s _ _ _
  have y0 : lkZ Z j c n s g (7076 + 8 * Z 4) = j := by
    unfold lkZ
    rw [upZ_n (by omega), upZ_n (by omega), upZ_n (by omega), upZ_n (by omega), upZ_n (by omega), upZ_n (by omega), upZ_n (by omega), upZ_n (by omega), upZ_s]
  have y1 : lkZ Z j c n s g (7077 + 8 * Z 4) = c := by
    unfold lkZ
    rw [show 7077 + 8 * Z 4 = 7076 + 8 * Z 4 + 1 by omega, upZ_n (by omega), upZ_n (by omega), upZ_n (by omega), upZ_n (by omega), upZ_n (by omega), upZ_n (by omega), upZ_n (by omega), upZ_s]
  have y2 : lkZ Z j c n s g (7078 + 8 * Z 4) = Z 0 := by
    unfold lkZ
    rw [show 7078 + 8 * Z 4 = 7076 + 8 * Z 4 + 2 by omega, upZ_n (by omega), upZ_n (by omega), upZ_n (by omega), upZ_n (by omega), upZ_n (by omega), upZ_n (by omega), upZ_s]
  have y3 : lkZ Z j c n s g (7079 + 8 * Z 4) = n := by
    unfold lkZ
    rw [show 7079 + 8 * Z 4 = 7076 + 8 * Z 4 + 3 by omega, upZ_n (by omega), upZ_n (by omega), upZ_n (by omega), upZ_n (by omega), upZ_n (by omega), upZ_s]
  have y4 : lkZ Z j c n s g (7080 + 8 * Z 4) = s := by
    unfold lkZ
    rw [show 7080 + 8 * Z 4 = 7076 + 8 * Z 4 + 4 by omega, upZ_n (by omega), upZ_n (by omega), upZ_n (by omega), upZ_n (by omega), upZ_s]
  have y5 : lkZ Z j c n s g (7081 + 8 * Z 4) = Z 5 := by
    unfold lkZ
    rw [show 7081 + 8 * Z 4 = 7076 + 8 * Z 4 + 5 by omega, upZ_n (by omega), upZ_n (by omega), upZ_n (by omega), upZ_s]
  have y6 : lkZ Z j c n s g (7082 + 8 * Z 4) = Z 3 := by
    unfold lkZ
    rw [show 7082 + 8 * Z 4 = 7076 + 8 * Z 4 + 6 by omega, upZ_n (by omega), upZ_n (by omega), upZ_s]
  have y7 : lkZ Z j c n s g (7083 + 8 * Z 4) = g := by
    unfold lkZ
    rw [show 7083 + 8 * Z 4 = 7076 + 8 * Z 4 + 7 by omega, upZ_n (by omega), upZ_s]
  have hol : ∀ x m, m ≤ Z 3 → holesZ (lkZ Z j c n s g) x m = holesZ Z x m := fun x m hm => holesZ.zd x m (fun k q1 q2 => zo k (by omega) (by omega))
  have co : ∀ a, a ≠ 16 → a ≠ 18 → lkC C (Z 4) j c (Z 0) n s (Z 5) g (holesZ Z c (Z 3)) a = C a := fun a a1 a2 => by
    unfold lkC
    rw [upC_o a1, upC_o a2, upC_o a2, upC_o a2, upC_o a2, upC_o a2, upC_o a2, upC_o a2, upC_o a2]
  have e : ∀ k, k ≠ 4 → k < 7076 → lkZ Z j c n s g k = Z k := fun k q1 q2 => zo k q1 (by omega)
  refine hR.world (fun a q => co a (by omega) (by omega)) ⟨⟨⟨?_, ?_, ?_, ?_, ?_, ?_, ?_, ?_, fun c' hc' => ?_⟩, ?_, ?_, ?_, ?_, ?_, ?_⟩, ?_, ?_, ?_, ?_, ?_, ?_, ?_, ?_, ?_⟩
  · rw [e 0 (by decide) (by decide)]; exact c0
  · rw [e 1 (by decide) (by decide)]; exact c1
  · rw [e 2 (by decide) (by decide)]; exact c2
  · rw [e 3 (by decide) (by decide)]; exact c3
  · rw [z4]; omega
  · rw [e 5 (by decide) (by decide)]; exact c5
  · rw [e 6 (by decide) (by decide)]; exact c6
  · rw [e 7 (by decide) (by decide)]; exact c7
  · rw [e _ (by omega) (by omega)]; exact c8 c' hc'
  · exact bj.zc c1 (e 1 (by decide) (by decide)) (fun k q1 q2 => e k (by omega) (by omega)) (fun k q1 q2 => e k (by omega) (by omega))
  · exact bw.zc c1 c2 (e 1 (by decide) (by decide)) (e 2 (by decide) (by decide)) (fun k q1 q2 => e k (by omega) (by omega)) (fun i hi k hk _ => e _ (by omega) (by omega))
  · exact bp.zc c1 c3 (Nat.le_of_eq (e 0 (by decide) (by decide)).symm) (e 1 (by decide) (by decide)) (e 3 (by decide) (by decide)) (fun k q1 q2 => e k (by omega) (by omega)) (fun k q1 q2 => e k (by omega) (by omega))
  · refine ⟨fun l hl => ?_, fun l q1 q2 k hk => ?_⟩
    · rw [z4] at hl
      by_cases el : l = Z 4
      · rw [el, y0, y1, y2, y3, y4, y5, y6, e 1 (by decide) (by decide), e _ (by omega) (by omega), e 0 (by decide) (by decide), e 3 (by decide) (by decide)]
        refine ⟨hj, h2, hc, Nat.le_refl _, hn, hs1, c5, Nat.le_refl _, fun q => ?_⟩
        obtain ⟨p, p1, p2⟩ := hsaw q
        exact ⟨p, p1, by rw [e _ (by omega) (by omega)]; exact p2⟩
      · obtain ⟨a1, a2, a3, a4, a5, a6, a7, a8, a9⟩ := bl.1 l (by omega)
        rw [zo (7076 + 8 * l) (by omega) (by omega), zo (7077 + 8 * l) (by omega) (by omega), zo (7078 + 8 * l) (by omega) (by omega), zo (7079 + 8 * l) (by omega) (by omega), zo (7080 + 8 * l) (by omega) (by omega), zo (7081 + 8 * l) (by omega) (by omega), zo (7082 + 8 * l) (by omega) (by omega), e 1 (by decide) (by decide), e _ (by omega) (by omega), e 0 (by decide) (by decide), e 3 (by decide) (by decide)]
        refine ⟨a1, a2, a3, a4, a5, a6, a7, a8, fun q => ?_⟩
        obtain ⟨p, p1, p2⟩ := a9 q
        exact ⟨p, p1, by rw [e _ (by omega) (by omega)]; exact p2⟩
    · rw [z4] at q1
      rw [zo _ (by omega) (by omega)]
      exact bl.2 l (by omega) q2 k hk
  · exact bs.zc (Nat.le_of_eq (e 0 (by decide) (by decide)).symm) (Nat.le_of_eq (e 3 (by decide) (by decide)).symm) (fun k q1 q2 => e k (by omega) (by omega))
  · exact bn.zc c3 (e 3 (by decide) (by decide)) (fun k q1 q2 => e k (by omega) (by omega)) (fun k q1 q2 => e k (by omega) (by omega)) (fun k q1 q2 => e k (by omega) (by omega))
  · exact (g1.zc (e 1 (by decide) (by decide)) (e 2 (by decide) (by decide)) (fun k q1 q2 => e k (by omega) (by omega))).congr (co _ (by decide) (by decide)) (co _ (by decide) (by decide)) (co _ (by decide) (by decide)) (co _ (by decide) (by decide))
  · exact g2.zc (e 2 (by decide) (by decide)) (fun i hi k hk => e _ (by omega) (by omega))
  · obtain ⟨w0, w1, w2, w3, w4, w5, w6⟩ := g3
    refine ⟨by rw [co _ (by decide) (by decide), e 0 (by decide) (by decide)]; exact w0, by rw [co _ (by decide) (by decide), e 5 (by decide) (by decide)]; exact w1, by rw [co _ (by decide) (by decide), e 8 (by decide) (by decide)]; exact w2, fun c hc => by rw [co _ (by decide) (by decide), e _ (by omega) (by omega)]; exact w3 c hc, fun c hc k hk h1 => by rw [co _ (by decide) (by decide), e _ (by omega) (by omega)]; exact w4 c hc k hk h1, fun j hj => ?_, fun i hi t ht => by rw [co _ (by decide) (by decide), e _ (by omega) (by omega)]; exact w6 i hi t ht⟩
    obtain ⟨j1, j2, j3, j4, j5⟩ := w5 j hj
    exact ⟨by rw [co _ (by decide) (by decide), e _ (by omega) (by omega)]; exact j1, fun c hc => by rw [co _ (by decide) (by decide), e _ (by omega) (by omega)]; exact j2 c hc, by rw [co _ (by decide) (by decide), e _ (by omega) (by omega)]; exact j3, by rw [co _ (by decide) (by decide), e _ (by omega) (by omega)]; exact j4, fun c hc r hr => by rw [co _ (by decide) (by decide), e _ (by omega) (by omega)]; exact j5 c hc r hr⟩
  · exact (g4.zc (e 0 (by decide) (by decide)) (e 2 (by decide) (by decide)) (fun k q1 q2 => e k (by omega) (by omega))).congr (co _ (by decide) (by decide))
  · obtain ⟨l1, l2, l3, l4⟩ := g5
    have l1 : C 16 0 = Z 3 := l1
    have l2 : C 16 1 = Z 4 := l2
    have cs : ∀ i, i < Z 4 * 8 ∨ Z 4 * 8 + 8 ≤ i → lkC C (Z 4) j c (Z 0) n s (Z 5) g (holesZ Z c (Z 3)) 18 i = C 18 i := fun i hi => by
      unfold lkC
      rw [upC_o (by decide), upC_e, if_neg (by omega), upC_e, if_neg (by omega), upC_e, if_neg (by omega), upC_e, if_neg (by omega), upC_e, if_neg (by omega), upC_e, if_neg (by omega), upC_e, if_neg (by omega), upC_e, if_neg (by omega)]
    have cn : ∀ q, q < 8 → lkC C (Z 4) j c (Z 0) n s (Z 5) g (holesZ Z c (Z 3)) 18 (Z 4 * 8 + q) = (if q = 7 then holesZ Z c (Z 3) else if q = 6 then g else if q = 5 then Z 5 else if q = 4 then s else if q = 3 then n else if q = 2 then Z 0 else if q = 1 then c else j) := fun q hq => by
      unfold lkC
      rw [upC_o (by decide), upC_e, upC_e, upC_e, upC_e, upC_e, upC_e, upC_e, upC_e]
      rcases (show q = 0 ∨ q = 1 ∨ q = 2 ∨ q = 3 ∨ q = 4 ∨ q = 5 ∨ q = 6 ∨ q = 7 by omega) with rfl | rfl | rfl | rfl | rfl | rfl | rfl | rfl
      all_goals simp
    refine ⟨?_, ?_, fun p hp q hq => ?_, fun l hl => ?_⟩
    · show lkC C (Z 4) j c (Z 0) n s (Z 5) g (holesZ Z c (Z 3)) 16 0 = _
      unfold lkC
      rw [upC_e, if_neg (by decide), upC_o (by decide), upC_o (by decide), upC_o (by decide), upC_o (by decide), upC_o (by decide), upC_o (by decide), upC_o (by decide), upC_o (by decide), e 3 (by decide) (by decide)]
      exact l1
    · show lkC C (Z 4) j c (Z 0) n s (Z 5) g (holesZ Z c (Z 3)) 16 1 = _
      rw [z4]
      exact upC_s _ _ _ _
    · rw [co _ (by decide) (by decide), e _ (by omega) (by omega)]
      exact l3 p hp q hq
    · show (∀ q, q < 6 → lkC C (Z 4) j c (Z 0) n s (Z 5) g (holesZ Z c (Z 3)) 18 (l * 8 + q) = _) ∧ lkC C (Z 4) j c (Z 0) n s (Z 5) g (holesZ Z c (Z 3)) 18 (l * 8 + 6) = _ ∧ (_ → lkC C (Z 4) j c (Z 0) n s (Z 5) g (holesZ Z c (Z 3)) 18 (l * 8 + 7) = _)
      by_cases el : l = Z 4
      · rw [el]
        refine ⟨fun q hq => ?_, ?_, fun _ => ?_⟩
        · rw [cn q (by omega)]
          rcases (show q = 0 ∨ q = 1 ∨ q = 2 ∨ q = 3 ∨ q = 4 ∨ q = 5 by omega) with rfl | rfl | rfl | rfl | rfl | rfl
          · exact y0.symm
          · rw [show 7076 + 8 * Z 4 + 1 = 7077 + 8 * Z 4 by omega]; exact y1.symm
          · rw [show 7076 + 8 * Z 4 + 2 = 7078 + 8 * Z 4 by omega]; exact y2.symm
          · rw [show 7076 + 8 * Z 4 + 3 = 7079 + 8 * Z 4 by omega]; exact y3.symm
          · rw [show 7076 + 8 * Z 4 + 4 = 7080 + 8 * Z 4 by omega]; exact y4.symm
          · rw [show 7076 + 8 * Z 4 + 5 = 7081 + 8 * Z 4 by omega]; exact y5.symm
        · rw [cn 6 (by decide), y7]; rfl
        · rw [cn 7 (by decide), y1, y6, hol _ _ (Nat.le_refl _)]; rfl
      · obtain ⟨d1, d2, d3⟩ := l4 l hl
        refine ⟨fun q hq => ?_, ?_, fun q => ?_⟩
        · rw [cs _ (by omega), zo _ (by omega) (by omega)]; exact d1 q hq
        · rw [cs _ (by omega), zo _ (by omega) (by omega)]; exact d2
        · rw [z4] at q
          have a8 := (bl.1 l (by omega)).2.2.2.2.2.2.2.1
          rw [cs _ (by omega), zo _ (by omega) (by omega), zo _ (by omega) (by omega), hol _ _ a8]
          exact d3 (by omega)
  · exact (g6.zc (zo 6 (by decide) (by omega)) c6 (fun k q1 q2 => zo k (by omega) (by omega))).congr (co _ (by decide) (by decide)) (co _ (by decide) (by decide))
  · exact (g7.zc hTX (by decide) (fun k q1 q2 => zo k (by omega) (by omega))).congr (co _ (by decide) (by decide)) (co _ (by decide) (by decide))
  · exact (g8.zc hTX (by decide) (fun k q1 q2 => zo k (by omega) (by omega))).congr (co _ (by decide) (by decide)) (co _ (by decide) (by decide))
  · exact (g9.zc (e 7 (by decide) (by decide))).congr (co _ (by decide) (by decide)) rfl rfl
end T15
