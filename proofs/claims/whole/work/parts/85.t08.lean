/-! the reference runs codes -/
section T08
variable {h : mh_H} {F : F2} {Z : Z1} {T L : List Nat} {u N p f o t : Nat} {vs : Nat → Nat}
theorem m_two (N : Nat) (H : mh_H) {o : Nat} (ho : o < 7) (a b : Int32) : D_X12_two N H (nI o) a b = some (tw o a b, H) := by
  unfold D_X12_two tw
  rcases (show o = 0 ∨ o = 1 ∨ o = 2 ∨ o = 3 ∨ o = 4 ∨ o = 5 ∨ o = 6 by omega) with rfl | rfl | rfl | rfl | rfl | rfl | rfl
  · rw [if_pos (show nI 0 = (0 : Int32) by decide)]
    rw [if_pos (show (0 : Nat) = 0 from rfl)]
  · rw [if_neg (show ¬ nI 1 = (0 : Int32) by decide)]
    rw [if_pos (show nI 1 = (1 : Int32) by decide)]
    rw [if_neg (show ¬ (1 : Nat) = 0 by decide)]
    rw [if_pos (show (1 : Nat) = 1 from rfl)]
  · rw [if_neg (show ¬ nI 2 = (0 : Int32) by decide)]
    rw [if_neg (show ¬ nI 2 = (1 : Int32) by decide)]
    rw [if_pos (show nI 2 = (2 : Int32) by decide)]
    rw [if_neg (show ¬ (2 : Nat) = 0 by decide)]
    rw [if_neg (show ¬ (2 : Nat) = 1 by decide)]
    rw [if_pos (show (2 : Nat) = 2 from rfl)]
  · rw [if_neg (show ¬ nI 3 = (0 : Int32) by decide)]
    rw [if_neg (show ¬ nI 3 = (1 : Int32) by decide)]
    rw [if_neg (show ¬ nI 3 = (2 : Int32) by decide)]
    rw [if_pos (show nI 3 = (3 : Int32) by decide)]
    rw [if_neg (show ¬ (3 : Nat) = 0 by decide)]
    rw [if_neg (show ¬ (3 : Nat) = 1 by decide)]
    rw [if_neg (show ¬ (3 : Nat) = 2 by decide)]
    rw [if_pos (show (3 : Nat) = 3 from rfl)]
    by_cases q : b = 0
    · have q2 : b = nI 0 := q
      rw [if_pos q, if_pos q2]; rfl
    · have q2 : ¬ b = nI 0 := q
      rw [if_neg q, if_neg q2]
      exact if_neg q
  · rw [if_neg (show ¬ nI 4 = (0 : Int32) by decide)]
    rw [if_neg (show ¬ nI 4 = (1 : Int32) by decide)]
    rw [if_neg (show ¬ nI 4 = (2 : Int32) by decide)]
    rw [if_neg (show ¬ nI 4 = (3 : Int32) by decide)]
    rw [if_pos (show nI 4 = (4 : Int32) by decide)]
    rw [if_neg (show ¬ (4 : Nat) = 0 by decide)]
    rw [if_neg (show ¬ (4 : Nat) = 1 by decide)]
    rw [if_neg (show ¬ (4 : Nat) = 2 by decide)]
    rw [if_neg (show ¬ (4 : Nat) = 3 by decide)]
    rw [if_pos (show (4 : Nat) = 4 from rfl)]
    by_cases q : b ≤ a
    · rw [if_pos q, if_pos q]; rfl
    · rw [if_neg q, if_neg q]; rfl
  · rw [if_neg (show ¬ nI 5 = (0 : Int32) by decide)]
    rw [if_neg (show ¬ nI 5 = (1 : Int32) by decide)]
    rw [if_neg (show ¬ nI 5 = (2 : Int32) by decide)]
    rw [if_neg (show ¬ nI 5 = (3 : Int32) by decide)]
    rw [if_neg (show ¬ nI 5 = (4 : Int32) by decide)]
    rw [if_pos (show nI 5 = (5 : Int32) by decide)]
    rw [if_neg (show ¬ (5 : Nat) = 0 by decide)]
    rw [if_neg (show ¬ (5 : Nat) = 1 by decide)]
    rw [if_neg (show ¬ (5 : Nat) = 2 by decide)]
    rw [if_neg (show ¬ (5 : Nat) = 3 by decide)]
    rw [if_neg (show ¬ (5 : Nat) = 4 by decide)]
    rw [if_pos (show (5 : Nat) = 5 from rfl)]
    by_cases q : a = b
    · rw [if_pos q, if_pos q]; rfl
    · rw [if_neg q, if_neg q]; rfl
  · rw [if_neg (show ¬ nI 6 = (0 : Int32) by decide)]
    rw [if_neg (show ¬ nI 6 = (1 : Int32) by decide)]
    rw [if_neg (show ¬ nI 6 = (2 : Int32) by decide)]
    rw [if_neg (show ¬ nI 6 = (3 : Int32) by decide)]
    rw [if_neg (show ¬ nI 6 = (4 : Int32) by decide)]
    rw [if_neg (show ¬ nI 6 = (5 : Int32) by decide)]
    rw [if_neg (show ¬ (6 : Nat) = 0 by decide)]
    rw [if_neg (show ¬ (6 : Nat) = 1 by decide)]
    rw [if_neg (show ¬ (6 : Nat) = 2 by decide)]
    rw [if_neg (show ¬ (6 : Nat) = 3 by decide)]
    rw [if_neg (show ¬ (6 : Nat) = 4 by decide)]
    rw [if_neg (show ¬ (6 : Nat) = 5 by decide)]
    by_cases q : a ≤ b
    · rw [if_pos q, if_pos q]; rfl
    · rw [if_neg q, if_neg q]; rfl
theorem pred_n (n : Nat) : nI (n + 1) + Int32.ofInt (-1) = nI n := by
  rw [← nI_add]
  show nI n + nI 1 + -1 = nI n
  rw [Int32.add_assoc, show nI 1 + (-1 : Int32) = 0 by decide, Int32.add_zero]
/-- values stand in the reference's row, the first one at 0 -/
def SK (F : F2) (st : List Int32) : Prop := ∀ j, j < st.length → F 96 j = st.reverse.getD j 0
theorem SK_push {st : List Int32} (hk : SK F st) (x : Int32) : SK (up2 F 96 st.length x) (x :: st) := fun j hj => by
  rw [List.length_cons] at hj
  rw [List.reverse_cons, List.getD_eq_getElem?_getD]
  by_cases q : j = st.length
  · rw [q, up2_s, List.getElem?_append_right (by rw [List.length_reverse]; omega), List.length_reverse, Nat.sub_self]
    rfl
  · rw [up2_j q, hk j (by omega), List.getElem?_append_left (by rw [List.length_reverse]; omega), List.getD_eq_getElem?_getD]
theorem SK_two {st : List Int32} {x y z : Int32} (hk : SK F (y :: x :: st)) : F 96 st.length = x ∧ F 96 (st.length + 1) = y ∧ SK (up2 F 96 st.length z) (z :: st) := by
  have h1 := hk st.length (by rw [List.length_cons, List.length_cons]; omega)
  have h2 := hk (st.length + 1) (by rw [List.length_cons, List.length_cons]; omega)
  rw [List.reverse_cons, List.reverse_cons, List.append_assoc, List.getD_eq_getElem?_getD] at h1 h2
  rw [List.getElem?_append_right (by rw [List.length_reverse]; omega), List.length_reverse] at h1 h2
  rw [Nat.sub_self] at h1
  rw [show st.length + 1 - st.length = 1 by omega] at h2
  refine ⟨h1, h2, SK_push (fun j hj => ?_) z⟩
  have h3 := hk j (by rw [List.length_cons, List.length_cons]; omega)
  rw [h3, List.reverse_cons, List.reverse_cons, List.append_assoc, List.getD_eq_getElem?_getD, List.getElem?_append_left (by rw [List.length_reverse]; omega), ← List.getD_eq_getElem?_getD]
theorem m_go (hs : Sh h) (N : Nat) {t to : Nat} (ht : t + 13 + to ≤ 7770) : ∀ (cs : List Nat) Fu k st st' F, k + cs.length = to → cs.length < Fu → (∀ i, i < cs.length → Z (t + 13 + (k + i)) = cs.getD i 0) → evs vs cs st = some st' → st.length + cs.length ≤ 64 → (∀ j, j < 4 → F 95 j = nI (vs j)) → SK F st → ∃ F', D_X12_goes_6 N Fu (mh_w h (gz F Z)) 86 (nI t) (nI to) (nI st.length) (nI k) = some (nI st'.length, mh_w h (gz F' Z)) ∧ (∀ a, a ≠ 96 → F' a = F a) ∧ SK F' st' := by
  intro cs
  induction cs with
  | nil =>
    intro Fu k st st' F hk hF hc he hl hv hS
    obtain ⟨Fu, rfl⟩ : ∃ F1, Fu = F1 + 1 := ⟨Fu - 1, by omega⟩
    cases he
    have hk : k + 0 = to := hk
    refine ⟨F, ?_, fun _ _ => rfl, hS⟩
    rw [D_X12_goes_6, show k = to by omega]
    simp (disch := first | assumption | decide | omega) only [lit, lt64, ofI1, some_bind, if_ib', zB_ib, zBn0, zBn1, zBn, dN_n, nI_add, nI_mul, nI_md, nI_sub, nI_div, md, le_pred, lt_T, lt_F, le_T, le_F, eq_T, eq_F, ng_le, ng_lt, lt_ng, le_ng, eq_ng, max_n, min_n, and_true, true_and, and_false, false_and, and_self, if_true, if_false, ite_self, ↓reduceIte, m_in32, m_isC, m_isS, m_isJ hs, m_jnt, m_er hs, gr_86_0 hs, gr_86_1 hs, gr_86_2 hs, gr_86_4 hs, gr_86_5 hs, gr_86_6 hs, gr_86_7 hs, gr_86_8 hs, gr_86_15 hs, gr_86_16 hs, gr_86_17 hs, gr_86_18 hs, gr_86_19 hs, gr_86_20 hs, gr_86_21 hs, gr_86_27 hs, gr_86_28 hs, gr_86_29 hs, ko_86 hs, gi_86 hs, pi_86 hs, al_87 hs, ai_87 hs, ui_87 hs, al_88 hs, ai_88 hs, ui_88 hs, al_89 hs, ai_89 hs, ui_89 hs, al_90 hs, ai_90 hs, ui_90 hs, al_91 hs, ai_91 hs, ui_91 hs, al_92 hs, ai_92 hs, ui_92 hs, al_93 hs, ai_93 hs, ui_93 hs, al_94 hs, ai_94 hs, ui_94 hs, al_95 hs, ai_95 hs, ui_95 hs, al_96 hs, ai_96 hs, ui_96 hs, al_97 hs, ai_97 hs, ui_97 hs, al_98 hs, ai_98 hs, ui_98 hs, al_99 hs, ai_99 hs, ui_99 hs, al_100 hs, ai_100 hs, ui_100 hs, al_101 hs, ai_101 hs, ui_101 hs, al_102 hs, ai_102 hs, ui_102 hs, al_103 hs, ai_103 hs, ui_103 hs, al_104 hs, ai_104 hs, ui_104 hs]
  | cons c cs ih =>
    intro Fu k st st' F hk hF hc he hl hv hS
    obtain ⟨Fu, rfl⟩ : ∃ F1, Fu = F1 + 1 := ⟨Fu - 1, by omega⟩
    rw [List.length_cons] at hk hF hl
    have c0 : Z (t + 13 + k) = c := hc 0 (by rw [List.length_cons]; omega)
    have hc' : ∀ i, i < cs.length → Z (t + 13 + (k + 1 + i)) = cs.getD i 0 := fun i hi => by
      have := hc (i + 1) (by rw [List.length_cons]; omega)
      rw [show k + 1 + i = k + (i + 1) by omega, this]
      rfl
    rw [evs_c] at he
    rw [D_X12_goes_6]
    by_cases q : c < 1000
    · rw [if_pos q] at he
      obtain ⟨F', x1, x2, x3⟩ := ih Fu (k + 1) (nI c :: st) st' (up2 F 96 st.length (nI c)) (by omega) (by omega) hc' he (by rw [List.length_cons]; omega) (fun j hj => by rw [up2_o (by decide)]; exact hv j hj) (SK_push hS _)
      rw [List.length_cons] at x1
      refine ⟨F', ?_, fun a ha => by rw [x2 a ha, up2_o ha], x3⟩
      simp (disch := first | assumption | decide | omega) only [c0, D_X12_goes_64, D_X12_goes_108, x1, lit, lt64, ofI1, some_bind, if_ib', zB_ib, zBn0, zBn1, zBn, dN_n, nI_add, nI_mul, nI_md, nI_sub, nI_div, md, le_pred, lt_T, lt_F, le_T, le_F, eq_T, eq_F, ng_le, ng_lt, lt_ng, le_ng, eq_ng, max_n, min_n, and_true, true_and, and_false, false_and, and_self, if_true, if_false, ite_self, ↓reduceIte, m_in32, m_isC, m_isS, m_isJ hs, m_jnt, m_er hs, gr_86_0 hs, gr_86_1 hs, gr_86_2 hs, gr_86_4 hs, gr_86_5 hs, gr_86_6 hs, gr_86_7 hs, gr_86_8 hs, gr_86_15 hs, gr_86_16 hs, gr_86_17 hs, gr_86_18 hs, gr_86_19 hs, gr_86_20 hs, gr_86_21 hs, gr_86_27 hs, gr_86_28 hs, gr_86_29 hs, ko_86 hs, gi_86 hs, pi_86 hs, al_87 hs, ai_87 hs, ui_87 hs, al_88 hs, ai_88 hs, ui_88 hs, al_89 hs, ai_89 hs, ui_89 hs, al_90 hs, ai_90 hs, ui_90 hs, al_91 hs, ai_91 hs, ui_91 hs, al_92 hs, ai_92 hs, ui_92 hs, al_93 hs, ai_93 hs, ui_93 hs, al_94 hs, ai_94 hs, ui_94 hs, al_95 hs, ai_95 hs, ui_95 hs, al_96 hs, ai_96 hs, ui_96 hs, al_97 hs, ai_97 hs, ui_97 hs, al_98 hs, ai_98 hs, ui_98 hs, al_99 hs, ai_99 hs, ui_99 hs, al_100 hs, ai_100 hs, ui_100 hs, al_101 hs, ai_101 hs, ui_101 hs, al_102 hs, ai_102 hs, ui_102 hs, al_103 hs, ai_103 hs, ui_103 hs, al_104 hs, ai_104 hs, ui_104 hs]
    · rw [if_neg q] at he
      by_cases q2 : c < 2000
      · rw [if_pos q2] at he
        by_cases q3 : c < 1004
        · rw [if_pos q3] at he
          obtain ⟨F', x1, x2, x3⟩ := ih Fu (k + 1) (nI (vs (c - 1000)) :: st) st' (up2 F 96 st.length (nI (vs (c - 1000)))) (by omega) (by omega) hc' he (by rw [List.length_cons]; omega) (fun j hj => by rw [up2_o (by decide)]; exact hv j hj) (SK_push hS _)
          rw [List.length_cons] at x1
          have hv' := hv (c - 1000) (by omega)
          refine ⟨F', ?_, fun a ha => by rw [x2 a ha, up2_o ha], x3⟩
          simp (disch := first | assumption | decide | omega) only [c0, hv', D_X12_goes_64, D_X12_goes_108, x1, lit, lt64, ofI1, some_bind, if_ib', zB_ib, zBn0, zBn1, zBn, dN_n, nI_add, nI_mul, nI_md, nI_sub, nI_div, md, le_pred, lt_T, lt_F, le_T, le_F, eq_T, eq_F, ng_le, ng_lt, lt_ng, le_ng, eq_ng, max_n, min_n, and_true, true_and, and_false, false_and, and_self, if_true, if_false, ite_self, ↓reduceIte, m_in32, m_isC, m_isS, m_isJ hs, m_jnt, m_er hs, gr_86_0 hs, gr_86_1 hs, gr_86_2 hs, gr_86_4 hs, gr_86_5 hs, gr_86_6 hs, gr_86_7 hs, gr_86_8 hs, gr_86_15 hs, gr_86_16 hs, gr_86_17 hs, gr_86_18 hs, gr_86_19 hs, gr_86_20 hs, gr_86_21 hs, gr_86_27 hs, gr_86_28 hs, gr_86_29 hs, ko_86 hs, gi_86 hs, pi_86 hs, al_87 hs, ai_87 hs, ui_87 hs, al_88 hs, ai_88 hs, ui_88 hs, al_89 hs, ai_89 hs, ui_89 hs, al_90 hs, ai_90 hs, ui_90 hs, al_91 hs, ai_91 hs, ui_91 hs, al_92 hs, ai_92 hs, ui_92 hs, al_93 hs, ai_93 hs, ui_93 hs, al_94 hs, ai_94 hs, ui_94 hs, al_95 hs, ai_95 hs, ui_95 hs, al_96 hs, ai_96 hs, ui_96 hs, al_97 hs, ai_97 hs, ui_97 hs, al_98 hs, ai_98 hs, ui_98 hs, al_99 hs, ai_99 hs, ui_99 hs, al_100 hs, ai_100 hs, ui_100 hs, al_101 hs, ai_101 hs, ui_101 hs, al_102 hs, ai_102 hs, ui_102 hs, al_103 hs, ai_103 hs, ui_103 hs, al_104 hs, ai_104 hs, ui_104 hs]
        · rw [if_neg q3] at he; cases he
      · rw [if_neg q2] at he
        by_cases q3 : c < 2007
        · rw [if_pos q3] at he
          match st, he, hl, hS with
          | y :: x :: r, he, hl, hS =>
            obtain ⟨k1, k2, k3⟩ := SK_two (z := tw (c - 2000) x y) hS
            rw [List.length_cons, List.length_cons] at hl ⊢
            obtain ⟨F', x1, x2, x3⟩ := ih Fu (k + 1) (tw (c - 2000) x y :: r) st' (up2 F 96 r.length (tw (c - 2000) x y)) (by omega) (by omega) hc' he (by rw [List.length_cons]; omega) (fun j hj => by rw [up2_o (by decide)]; exact hv j hj) k3
            rw [List.length_cons] at x1
            have htw := fun H => m_two N H (o := c - 2000) (by omega) x y
            have p1 := pred_n (r.length + 1)
            have p2 := Nat.add_sub_cancel (n := r.length) (m := 1)
            refine ⟨F', ?_, fun a ha => by rw [x2 a ha, up2_o ha], x3⟩
            simp (disch := first | assumption | decide | omega) only [c0, p1, p2, k1, k2, htw, D_X12_goes_108, x1, lit, lt64, ofI1, some_bind, if_ib', zB_ib, zBn0, zBn1, zBn, dN_n, nI_add, nI_mul, nI_md, nI_sub, nI_div, md, le_pred, lt_T, lt_F, le_T, le_F, eq_T, eq_F, ng_le, ng_lt, lt_ng, le_ng, eq_ng, max_n, min_n, and_true, true_and, and_false, false_and, and_self, if_true, if_false, ite_self, ↓reduceIte, m_in32, m_isC, m_isS, m_isJ hs, m_jnt, m_er hs, gr_86_0 hs, gr_86_1 hs, gr_86_2 hs, gr_86_4 hs, gr_86_5 hs, gr_86_6 hs, gr_86_7 hs, gr_86_8 hs, gr_86_15 hs, gr_86_16 hs, gr_86_17 hs, gr_86_18 hs, gr_86_19 hs, gr_86_20 hs, gr_86_21 hs, gr_86_27 hs, gr_86_28 hs, gr_86_29 hs, ko_86 hs, gi_86 hs, pi_86 hs, al_87 hs, ai_87 hs, ui_87 hs, al_88 hs, ai_88 hs, ui_88 hs, al_89 hs, ai_89 hs, ui_89 hs, al_90 hs, ai_90 hs, ui_90 hs, al_91 hs, ai_91 hs, ui_91 hs, al_92 hs, ai_92 hs, ui_92 hs, al_93 hs, ai_93 hs, ui_93 hs, al_94 hs, ai_94 hs, ui_94 hs, al_95 hs, ai_95 hs, ui_95 hs, al_96 hs, ai_96 hs, ui_96 hs, al_97 hs, ai_97 hs, ui_97 hs, al_98 hs, ai_98 hs, ui_98 hs, al_99 hs, ai_99 hs, ui_99 hs, al_100 hs, ai_100 hs, ui_100 hs, al_101 hs, ai_101 hs, ui_101 hs, al_102 hs, ai_102 hs, ui_102 hs, al_103 hs, ai_103 hs, ui_103 hs, al_104 hs, ai_104 hs, ui_104 hs]
        · rw [if_neg q3] at he; cases he
/-- all cases of a text can be run -/
def VC (vs : Nat → Nat) (cl : List (List Nat × List Nat)) : Prop := ∀ c ∈ cl, (∃ v, WV vs c.1 v) ∧ ∃ ws, TV vs c.2 ws
theorem SK_all {ws : List Int32} (hk : SK F ws) : (∀ j, j < ws.length → F 96 j ≠ nI 0) ↔ ∀ w ∈ ws, w ≠ nI 0 := by
  constructor
  · intro q w hw
    have hw2 := List.mem_reverse.mpr hw
    obtain ⟨j, hj, e⟩ := List.getElem_of_mem hw2
    have hj2 : j < ws.length := by rw [List.length_reverse] at hj; exact hj
    have := q j hj2
    rw [hk j hj2, List.getD_eq_getElem?_getD, List.getElem?_eq_getElem hj, e] at this
    exact this
  · intro q j hj e
    have hj2 : j < ws.reverse.length := by rw [List.length_reverse]; exact hj
    rw [hk j hj, List.getD_eq_getElem?_getD, List.getElem?_eq_getElem hj2] at e
    exact q _ (List.mem_reverse.mp (List.getElem_mem hj2)) e
theorem m_72n (hs : Sh h) (N : Nat) (k14 : mh_H → Nat → Int32 → Int32 → Int32 → Option (Int32 × mh_H)) {t fr i mid to n : Nat} (hn : n ≤ 64) : ∀ m Fu k al, k + m = n → m < Fu → (al = 0 ∨ (al = 1 ∧ ∃ j, k ≤ j ∧ j < n ∧ F 96 j = nI 0)) → D_X12_says_72 N k14 Fu (mh_w h (gz F Z)) 86 (nI t) (nI fr) (nI i) (nI mid) (nI to) (nI n) (nI al) (nI k) = k14 (mh_w h (gz F Z)) 86 (nI t) (nI to) (nI (i + 1)) := by
  intro m
  induction m with
  | zero =>
    intro Fu k al hk hF hq
    obtain ⟨Fu, rfl⟩ : ∃ F1, Fu = F1 + 1 := ⟨Fu - 1, by omega⟩
    have h0 : al = 0 := by
      rcases hq with q | ⟨q, j, j1, j2, j3⟩
      · exact q
      · omega
    subst h0
    rw [D_X12_says_72, show k = n by omega]
    simp (disch := first | assumption | decide | omega) only [lit, lt64, ofI1, some_bind, if_ib', zB_ib, zBn0, zBn1, zBn, dN_n, nI_add, nI_mul, nI_md, nI_sub, nI_div, md, le_pred, lt_T, lt_F, le_T, le_F, eq_T, eq_F, ng_le, ng_lt, lt_ng, le_ng, eq_ng, max_n, min_n, and_true, true_and, and_false, false_and, and_self, if_true, if_false, ite_self, ↓reduceIte, m_in32, m_isC, m_isS, m_isJ hs, m_jnt, m_er hs, gr_86_0 hs, gr_86_1 hs, gr_86_2 hs, gr_86_4 hs, gr_86_5 hs, gr_86_6 hs, gr_86_7 hs, gr_86_8 hs, gr_86_15 hs, gr_86_16 hs, gr_86_17 hs, gr_86_18 hs, gr_86_19 hs, gr_86_20 hs, gr_86_21 hs, gr_86_27 hs, gr_86_28 hs, gr_86_29 hs, ko_86 hs, gi_86 hs, pi_86 hs, al_87 hs, ai_87 hs, ui_87 hs, al_88 hs, ai_88 hs, ui_88 hs, al_89 hs, ai_89 hs, ui_89 hs, al_90 hs, ai_90 hs, ui_90 hs, al_91 hs, ai_91 hs, ui_91 hs, al_92 hs, ai_92 hs, ui_92 hs, al_93 hs, ai_93 hs, ui_93 hs, al_94 hs, ai_94 hs, ui_94 hs, al_95 hs, ai_95 hs, ui_95 hs, al_96 hs, ai_96 hs, ui_96 hs, al_97 hs, ai_97 hs, ui_97 hs, al_98 hs, ai_98 hs, ui_98 hs, al_99 hs, ai_99 hs, ui_99 hs, al_100 hs, ai_100 hs, ui_100 hs, al_101 hs, ai_101 hs, ui_101 hs, al_102 hs, ai_102 hs, ui_102 hs, al_103 hs, ai_103 hs, ui_103 hs, al_104 hs, ai_104 hs, ui_104 hs]
  | succ m ih =>
    intro Fu k al hk hF hq
    obtain ⟨Fu, rfl⟩ : ∃ F1, Fu = F1 + 1 := ⟨Fu - 1, by omega⟩
    rw [D_X12_says_72]
    rcases hq with rfl | ⟨rfl, j, j1, j2, j3⟩
    · have ih' := ih Fu (k + 1) 0 (by omega) (by omega) (Or.inl rfl)
      simp (disch := first | assumption | decide | omega) only [D_X12_says_98, D_X12_says_99, ih', lit, lt64, ofI1, some_bind, if_ib', zB_ib, zBn0, zBn1, zBn, dN_n, nI_add, nI_mul, nI_md, nI_sub, nI_div, md, le_pred, lt_T, lt_F, le_T, le_F, eq_T, eq_F, ng_le, ng_lt, lt_ng, le_ng, eq_ng, max_n, min_n, and_true, true_and, and_false, false_and, and_self, if_true, if_false, ite_self, ↓reduceIte, m_in32, m_isC, m_isS, m_isJ hs, m_jnt, m_er hs, gr_86_0 hs, gr_86_1 hs, gr_86_2 hs, gr_86_4 hs, gr_86_5 hs, gr_86_6 hs, gr_86_7 hs, gr_86_8 hs, gr_86_15 hs, gr_86_16 hs, gr_86_17 hs, gr_86_18 hs, gr_86_19 hs, gr_86_20 hs, gr_86_21 hs, gr_86_27 hs, gr_86_28 hs, gr_86_29 hs, ko_86 hs, gi_86 hs, pi_86 hs, al_87 hs, ai_87 hs, ui_87 hs, al_88 hs, ai_88 hs, ui_88 hs, al_89 hs, ai_89 hs, ui_89 hs, al_90 hs, ai_90 hs, ui_90 hs, al_91 hs, ai_91 hs, ui_91 hs, al_92 hs, ai_92 hs, ui_92 hs, al_93 hs, ai_93 hs, ui_93 hs, al_94 hs, ai_94 hs, ui_94 hs, al_95 hs, ai_95 hs, ui_95 hs, al_96 hs, ai_96 hs, ui_96 hs, al_97 hs, ai_97 hs, ui_97 hs, al_98 hs, ai_98 hs, ui_98 hs, al_99 hs, ai_99 hs, ui_99 hs, al_100 hs, ai_100 hs, ui_100 hs, al_101 hs, ai_101 hs, ui_101 hs, al_102 hs, ai_102 hs, ui_102 hs, al_103 hs, ai_103 hs, ui_103 hs, al_104 hs, ai_104 hs, ui_104 hs]
    · by_cases q : F 96 k = nI 0
      · have ih' := ih Fu (k + 1) 0 (by omega) (by omega) (Or.inl rfl)
        simp (disch := first | assumption | decide | omega) only [q, D_X12_says_98, D_X12_says_99, ih', lit, lt64, ofI1, some_bind, if_ib', zB_ib, zBn0, zBn1, zBn, dN_n, nI_add, nI_mul, nI_md, nI_sub, nI_div, md, le_pred, lt_T, lt_F, le_T, le_F, eq_T, eq_F, ng_le, ng_lt, lt_ng, le_ng, eq_ng, max_n, min_n, and_true, true_and, and_false, false_and, and_self, if_true, if_false, ite_self, ↓reduceIte, m_in32, m_isC, m_isS, m_isJ hs, m_jnt, m_er hs, gr_86_0 hs, gr_86_1 hs, gr_86_2 hs, gr_86_4 hs, gr_86_5 hs, gr_86_6 hs, gr_86_7 hs, gr_86_8 hs, gr_86_15 hs, gr_86_16 hs, gr_86_17 hs, gr_86_18 hs, gr_86_19 hs, gr_86_20 hs, gr_86_21 hs, gr_86_27 hs, gr_86_28 hs, gr_86_29 hs, ko_86 hs, gi_86 hs, pi_86 hs, al_87 hs, ai_87 hs, ui_87 hs, al_88 hs, ai_88 hs, ui_88 hs, al_89 hs, ai_89 hs, ui_89 hs, al_90 hs, ai_90 hs, ui_90 hs, al_91 hs, ai_91 hs, ui_91 hs, al_92 hs, ai_92 hs, ui_92 hs, al_93 hs, ai_93 hs, ui_93 hs, al_94 hs, ai_94 hs, ui_94 hs, al_95 hs, ai_95 hs, ui_95 hs, al_96 hs, ai_96 hs, ui_96 hs, al_97 hs, ai_97 hs, ui_97 hs, al_98 hs, ai_98 hs, ui_98 hs, al_99 hs, ai_99 hs, ui_99 hs, al_100 hs, ai_100 hs, ui_100 hs, al_101 hs, ai_101 hs, ui_101 hs, al_102 hs, ai_102 hs, ui_102 hs, al_103 hs, ai_103 hs, ui_103 hs, al_104 hs, ai_104 hs, ui_104 hs]
      · have hjk : j ≠ k := fun e => by rw [e] at j3; exact q j3
        have ih' := ih Fu (k + 1) 1 (by omega) (by omega) (Or.inr ⟨rfl, j, by omega, j2, j3⟩)
        simp (disch := first | assumption | decide | omega) only [q, D_X12_says_98, D_X12_says_99, ih', lit, lt64, ofI1, some_bind, if_ib', zB_ib, zBn0, zBn1, zBn, dN_n, nI_add, nI_mul, nI_md, nI_sub, nI_div, md, le_pred, lt_T, lt_F, le_T, le_F, eq_T, eq_F, ng_le, ng_lt, lt_ng, le_ng, eq_ng, max_n, min_n, and_true, true_and, and_false, false_and, and_self, if_true, if_false, ite_self, ↓reduceIte, m_in32, m_isC, m_isS, m_isJ hs, m_jnt, m_er hs, gr_86_0 hs, gr_86_1 hs, gr_86_2 hs, gr_86_4 hs, gr_86_5 hs, gr_86_6 hs, gr_86_7 hs, gr_86_8 hs, gr_86_15 hs, gr_86_16 hs, gr_86_17 hs, gr_86_18 hs, gr_86_19 hs, gr_86_20 hs, gr_86_21 hs, gr_86_27 hs, gr_86_28 hs, gr_86_29 hs, ko_86 hs, gi_86 hs, pi_86 hs, al_87 hs, ai_87 hs, ui_87 hs, al_88 hs, ai_88 hs, ui_88 hs, al_89 hs, ai_89 hs, ui_89 hs, al_90 hs, ai_90 hs, ui_90 hs, al_91 hs, ai_91 hs, ui_91 hs, al_92 hs, ai_92 hs, ui_92 hs, al_93 hs, ai_93 hs, ui_93 hs, al_94 hs, ai_94 hs, ui_94 hs, al_95 hs, ai_95 hs, ui_95 hs, al_96 hs, ai_96 hs, ui_96 hs, al_97 hs, ai_97 hs, ui_97 hs, al_98 hs, ai_98 hs, ui_98 hs, al_99 hs, ai_99 hs, ui_99 hs, al_100 hs, ai_100 hs, ui_100 hs, al_101 hs, ai_101 hs, ui_101 hs, al_102 hs, ai_102 hs, ui_102 hs, al_103 hs, ai_103 hs, ui_103 hs, al_104 hs, ai_104 hs, ui_104 hs]
theorem m_72y (hs : Sh h) (N : Nat) (k14 : mh_H → Nat → Int32 → Int32 → Int32 → Option (Int32 × mh_H)) {t fr i mid to n : Nat} {v : Int32} {H : mh_H} (hn : n ≤ 64) (hg : ∃ F', D_X12_goes N (mh_w h (gz F Z)) 86 (nI t) (nI fr) (nI mid) = some (nI 1, mh_w h (gz F' Z)) ∧ F' 96 0 = v ∧ H = mh_w h (gz F' Z)) : ∀ m Fu k, k + m = n → m < Fu → (∀ j, k ≤ j → j < n → F 96 j ≠ nI 0) → D_X12_says_72 N k14 Fu (mh_w h (gz F Z)) 86 (nI t) (nI fr) (nI i) (nI mid) (nI to) (nI n) (nI 1) (nI k) = some (v, H) := by
  intro m
  induction m with
  | zero =>
    intro Fu k hk hF hq
    obtain ⟨Fu, rfl⟩ : ∃ F1, Fu = F1 + 1 := ⟨Fu - 1, by omega⟩
    obtain ⟨F', g1, g2, g3⟩ := hg
    rw [D_X12_says_72, show k = n by omega, g3]
    simp (disch := first | assumption | decide | omega) only [g1, g2, lit, lt64, ofI1, some_bind, if_ib', zB_ib, zBn0, zBn1, zBn, dN_n, nI_add, nI_mul, nI_md, nI_sub, nI_div, md, le_pred, lt_T, lt_F, le_T, le_F, eq_T, eq_F, ng_le, ng_lt, lt_ng, le_ng, eq_ng, max_n, min_n, and_true, true_and, and_false, false_and, and_self, if_true, if_false, ite_self, ↓reduceIte, m_in32, m_isC, m_isS, m_isJ hs, m_jnt, m_er hs, gr_86_0 hs, gr_86_1 hs, gr_86_2 hs, gr_86_4 hs, gr_86_5 hs, gr_86_6 hs, gr_86_7 hs, gr_86_8 hs, gr_86_15 hs, gr_86_16 hs, gr_86_17 hs, gr_86_18 hs, gr_86_19 hs, gr_86_20 hs, gr_86_21 hs, gr_86_27 hs, gr_86_28 hs, gr_86_29 hs, ko_86 hs, gi_86 hs, pi_86 hs, al_87 hs, ai_87 hs, ui_87 hs, al_88 hs, ai_88 hs, ui_88 hs, al_89 hs, ai_89 hs, ui_89 hs, al_90 hs, ai_90 hs, ui_90 hs, al_91 hs, ai_91 hs, ui_91 hs, al_92 hs, ai_92 hs, ui_92 hs, al_93 hs, ai_93 hs, ui_93 hs, al_94 hs, ai_94 hs, ui_94 hs, al_95 hs, ai_95 hs, ui_95 hs, al_96 hs, ai_96 hs, ui_96 hs, al_97 hs, ai_97 hs, ui_97 hs, al_98 hs, ai_98 hs, ui_98 hs, al_99 hs, ai_99 hs, ui_99 hs, al_100 hs, ai_100 hs, ui_100 hs, al_101 hs, ai_101 hs, ui_101 hs, al_102 hs, ai_102 hs, ui_102 hs, al_103 hs, ai_103 hs, ui_103 hs, al_104 hs, ai_104 hs, ui_104 hs]
  | succ m ih =>
    intro Fu k hk hF hq
    obtain ⟨Fu, rfl⟩ : ∃ F1, Fu = F1 + 1 := ⟨Fu - 1, by omega⟩
    have q := hq k (Nat.le_refl _) (by omega)
    have ih' := ih Fu (k + 1) (by omega) (by omega) (fun j j1 j2 => hq j (by omega) j2)
    rw [D_X12_says_72]
    simp (disch := first | assumption | decide | omega) only [q, D_X12_says_98, D_X12_says_99, ih', lit, lt64, ofI1, some_bind, if_ib', zB_ib, zBn0, zBn1, zBn, dN_n, nI_add, nI_mul, nI_md, nI_sub, nI_div, md, le_pred, lt_T, lt_F, le_T, le_F, eq_T, eq_F, ng_le, ng_lt, lt_ng, le_ng, eq_ng, max_n, min_n, and_true, true_and, and_false, false_and, and_self, if_true, if_false, ite_self, ↓reduceIte, m_in32, m_isC, m_isS, m_isJ hs, m_jnt, m_er hs, gr_86_0 hs, gr_86_1 hs, gr_86_2 hs, gr_86_4 hs, gr_86_5 hs, gr_86_6 hs, gr_86_7 hs, gr_86_8 hs, gr_86_15 hs, gr_86_16 hs, gr_86_17 hs, gr_86_18 hs, gr_86_19 hs, gr_86_20 hs, gr_86_21 hs, gr_86_27 hs, gr_86_28 hs, gr_86_29 hs, ko_86 hs, gi_86 hs, pi_86 hs, al_87 hs, ai_87 hs, ui_87 hs, al_88 hs, ai_88 hs, ui_88 hs, al_89 hs, ai_89 hs, ui_89 hs, al_90 hs, ai_90 hs, ui_90 hs, al_91 hs, ai_91 hs, ui_91 hs, al_92 hs, ai_92 hs, ui_92 hs, al_93 hs, ai_93 hs, ui_93 hs, al_94 hs, ai_94 hs, ui_94 hs, al_95 hs, ai_95 hs, ui_95 hs, al_96 hs, ai_96 hs, ui_96 hs, al_97 hs, ai_97 hs, ui_97 hs, al_98 hs, ai_98 hs, ui_98 hs, al_99 hs, ai_99 hs, ui_99 hs, al_100 hs, ai_100 hs, ui_100 hs, al_101 hs, ai_101 hs, ui_101 hs, al_102 hs, ai_102 hs, ui_102 hs, al_103 hs, ai_103 hs, ui_103 hs, al_104 hs, ai_104 hs, ui_104 hs]
theorem TV_len {cs : List Nat} : ∀ (st st' : List Int32), evs vs cs st = some st' → st'.length ≤ st.length + cs.length := by
  induction cs with
  | nil => intro st st' e; cases e; exact Nat.le_refl _
  | cons c cs ih =>
    intro st st' e
    rw [List.length_cons]
    rw [evs_c] at e
    by_cases q : c < 1000
    · rw [if_pos q] at e
      have := ih _ _ e
      rw [List.length_cons] at this
      omega
    · rw [if_neg q] at e
      by_cases q2 : c < 2000
      · rw [if_pos q2] at e
        by_cases q3 : c < 1004
        · rw [if_pos q3] at e
          have := ih _ _ e
          rw [List.length_cons] at this
          omega
        · rw [if_neg q3] at e; cases e
      · rw [if_neg q2] at e
        by_cases q3 : c < 2007
        · rw [if_pos q3] at e
          match st, e with
          | y :: x :: r, e =>
            have := ih _ _ e
            rw [List.length_cons] at this
            rw [List.length_cons, List.length_cons]
            omega
        · rw [if_neg q3] at e; cases e
theorem m_says14 (hs : Sh h) (hN : 10000 ≤ N) {t n : Nat} (ht : t + 77 ≤ 7770) (hz : Z t = n) (hn : n ≤ 6) : ∀ (cl : List (List Nat × List Nat)) Fu i fr F, i + cl.length = n → cl.length < Fu → (∀ j, j < 2 * cl.length → Z (t + 1 + 2 * i + j) = (encL fr cl).getD j 0) → (∀ j, j < (cat cl).length → Z (t + 13 + (fr + j)) = (cat cl).getD j 0) → fr + (cat cl).length ≤ 60 → VC vs cl → (∀ j, j < 4 → F 95 j = nI (vs j)) → ∃ F', D_X12_says_14 N Fu (mh_w h (gz F Z)) 86 (nI t) (nI fr) (nI i) = some (svT vs cl, mh_w h (gz F' Z)) ∧ ∀ a, a ≠ 96 → F' a = F a := by
  intro cl
  induction cl with
  | nil =>
    intro Fu i fr F hi hF he hc h60 hV hv
    obtain ⟨Fu, rfl⟩ : ∃ F1, Fu = F1 + 1 := ⟨Fu - 1, by omega⟩
    have hi : i + 0 = n := hi
    refine ⟨F, ?_, fun _ _ => rfl⟩
    rw [D_X12_says_14, svT]
    simp (disch := first | assumption | decide | omega) only [hz, lit, lt64, ofI1, some_bind, if_ib', zB_ib, zBn0, zBn1, zBn, dN_n, nI_add, nI_mul, nI_md, nI_sub, nI_div, md, le_pred, lt_T, lt_F, le_T, le_F, eq_T, eq_F, ng_le, ng_lt, lt_ng, le_ng, eq_ng, max_n, min_n, and_true, true_and, and_false, false_and, and_self, if_true, if_false, ite_self, ↓reduceIte, m_in32, m_isC, m_isS, m_isJ hs, m_jnt, m_er hs, gr_86_0 hs, gr_86_1 hs, gr_86_2 hs, gr_86_4 hs, gr_86_5 hs, gr_86_6 hs, gr_86_7 hs, gr_86_8 hs, gr_86_15 hs, gr_86_16 hs, gr_86_17 hs, gr_86_18 hs, gr_86_19 hs, gr_86_20 hs, gr_86_21 hs, gr_86_27 hs, gr_86_28 hs, gr_86_29 hs, ko_86 hs, gi_86 hs, pi_86 hs, al_87 hs, ai_87 hs, ui_87 hs, al_88 hs, ai_88 hs, ui_88 hs, al_89 hs, ai_89 hs, ui_89 hs, al_90 hs, ai_90 hs, ui_90 hs, al_91 hs, ai_91 hs, ui_91 hs, al_92 hs, ai_92 hs, ui_92 hs, al_93 hs, ai_93 hs, ui_93 hs, al_94 hs, ai_94 hs, ui_94 hs, al_95 hs, ai_95 hs, ui_95 hs, al_96 hs, ai_96 hs, ui_96 hs, al_97 hs, ai_97 hs, ui_97 hs, al_98 hs, ai_98 hs, ui_98 hs, al_99 hs, ai_99 hs, ui_99 hs, al_100 hs, ai_100 hs, ui_100 hs, al_101 hs, ai_101 hs, ui_101 hs, al_102 hs, ai_102 hs, ui_102 hs, al_103 hs, ai_103 hs, ui_103 hs, al_104 hs, ai_104 hs, ui_104 hs]
  | cons c cl ih =>
    intro Fu i fr F hi hF he hc h60 hV hv
    obtain ⟨Fu, rfl⟩ : ∃ F1, Fu = F1 + 1 := ⟨Fu - 1, by omega⟩
    rw [List.length_cons] at hi hF
    have hcl : (cat (c :: cl)).length = c.1.length + c.2.length + (cat cl).length := by rw [cat, List.length_append, List.length_append]
    have z1 : Z (t + 1 + 2 * i) = fr + c.1.length := he 0 (by rw [List.length_cons]; omega)
    have z2 : Z (t + 2 + 2 * i) = fr + c.1.length + c.2.length := by
      have := he 1 (by rw [List.length_cons]; omega)
      rw [show t + 1 + 2 * i + 1 = t + 2 + 2 * i by omega] at this
      exact this
    obtain ⟨⟨v, hv1⟩, ws, hw1⟩ := hV c (List.mem_cons_self)
    have he1 : evs vs c.2 [] = some (ws ++ []) := hw1 []
    rw [List.append_nil] at he1
    have he2 : evs vs c.1 [] = some [v] := hv1 []
    have cc : ∀ j, j < c.1.length + c.2.length + (cat cl).length → Z (t + 13 + (fr + j)) = (c.1 ++ (c.2 ++ cat cl)).getD j 0 := fun j hj => by
      have := hc j (by rw [hcl]; exact hj)
      rw [cat, List.append_assoc] at this
      exact this
    have hwl := TV_len _ _ he1
    rw [show ([] : List Int32).length = 0 from rfl] at hwl
    obtain ⟨F1, g1, g2, g3⟩ := m_go (Z := Z) (vs := vs) (t := t) (to := fr + c.1.length + c.2.length) hs N (by omega) c.2 N (fr + c.1.length) [] ws F (by omega) (by omega) (fun j hj => by
      have := cc (c.1.length + j) (by omega)
      rw [show fr + c.1.length + j = fr + (c.1.length + j) by omega, this, List.getD_eq_getElem?_getD, List.getElem?_append_right (by omega), show c.1.length + j - c.1.length = j by omega, List.getElem?_append_left hj, ← List.getD_eq_getElem?_getD]) he1 (by show 0 + c.2.length ≤ 64; omega) hv (fun j hj => absurd hj (Nat.not_lt_zero _))
    have gg : D_X12_goes N (mh_w h (gz F Z)) 86 (nI t) (nI (fr + c.1.length)) (nI (fr + c.1.length + c.2.length)) = some (nI ws.length, mh_w h (gz F1 Z)) := g1
    have hv1' : ∀ j, j < 4 → F1 95 j = nI (vs j) := fun j hj => by rw [g2 95 (by decide)]; exact hv j hj
    rw [D_X12_says_14, svT, TV_tvs hw1]
    by_cases q : ∀ w ∈ ws, w ≠ nI 0
    · rw [if_pos (all_T.mpr q), WV_svl hv1]
      obtain ⟨F2, k1, k2, k3⟩ := m_go (Z := Z) (vs := vs) (t := t) (to := fr + c.1.length) hs N (by omega) c.1 N fr [] [v] F1 (by omega) (by omega) (fun j hj => by
        rw [cc j (by omega), List.getD_eq_getElem?_getD, List.getElem?_append_left hj, ← List.getD_eq_getElem?_getD]) he2 (by show 0 + c.1.length ≤ 64; omega) hv1' (fun j hj => absurd hj (Nat.not_lt_zero _))
      have hy := m_72y (F := F1) (Z := Z) (t := t) (fr := fr) (i := i) (mid := fr + c.1.length) (to := fr + c.1.length + c.2.length) (n := ws.length) (v := v) hs N (D_X12_says_14 N Fu) (by omega) ⟨F2, k1, k3 0 Nat.zero_lt_one, rfl⟩ ws.length N 0 (by omega) (by omega) (fun j _ hj => (SK_all g3).mpr q j hj)
      refine ⟨F2, ?_, fun a ha => by rw [k2 a ha, g2 a ha]⟩
      simp (disch := first | assumption | decide | omega) only [hz, z1, z2, gg, hy, lit, lt64, ofI1, some_bind, if_ib', zB_ib, zBn0, zBn1, zBn, dN_n, nI_add, nI_mul, nI_md, nI_sub, nI_div, md, le_pred, lt_T, lt_F, le_T, le_F, eq_T, eq_F, ng_le, ng_lt, lt_ng, le_ng, eq_ng, max_n, min_n, and_true, true_and, and_false, false_and, and_self, if_true, if_false, ite_self, ↓reduceIte, m_in32, m_isC, m_isS, m_isJ hs, m_jnt, m_er hs, gr_86_0 hs, gr_86_1 hs, gr_86_2 hs, gr_86_4 hs, gr_86_5 hs, gr_86_6 hs, gr_86_7 hs, gr_86_8 hs, gr_86_15 hs, gr_86_16 hs, gr_86_17 hs, gr_86_18 hs, gr_86_19 hs, gr_86_20 hs, gr_86_21 hs, gr_86_27 hs, gr_86_28 hs, gr_86_29 hs, ko_86 hs, gi_86 hs, pi_86 hs, al_87 hs, ai_87 hs, ui_87 hs, al_88 hs, ai_88 hs, ui_88 hs, al_89 hs, ai_89 hs, ui_89 hs, al_90 hs, ai_90 hs, ui_90 hs, al_91 hs, ai_91 hs, ui_91 hs, al_92 hs, ai_92 hs, ui_92 hs, al_93 hs, ai_93 hs, ui_93 hs, al_94 hs, ai_94 hs, ui_94 hs, al_95 hs, ai_95 hs, ui_95 hs, al_96 hs, ai_96 hs, ui_96 hs, al_97 hs, ai_97 hs, ui_97 hs, al_98 hs, ai_98 hs, ui_98 hs, al_99 hs, ai_99 hs, ui_99 hs, al_100 hs, ai_100 hs, ui_100 hs, al_101 hs, ai_101 hs, ui_101 hs, al_102 hs, ai_102 hs, ui_102 hs, al_103 hs, ai_103 hs, ui_103 hs, al_104 hs, ai_104 hs, ui_104 hs]
    · rw [if_neg (fun e => q (all_T.mp e))]
      have hex : ∃ j, 0 ≤ j ∧ j < ws.length ∧ F1 96 j = nI 0 := by
        refine Classical.byContradiction fun hne => q ((SK_all g3).mp (fun j hj e => hne ⟨j, by omega, hj, e⟩))
      have hy := m_72n (F := F1) (Z := Z) (t := t) (fr := fr) (i := i) (mid := fr + c.1.length) (to := fr + c.1.length + c.2.length) (n := ws.length) hs N (D_X12_says_14 N Fu) (by omega) ws.length N 0 1 (by omega) (by omega) (Or.inr ⟨rfl, hex⟩)
      obtain ⟨F', x1, x2⟩ := ih Fu (i + 1) (fr + c.1.length + c.2.length) F1 (by omega) (by omega) (fun j hj => by
        have := he (j + 2) (by rw [List.length_cons]; omega)
        rw [show t + 1 + 2 * i + (j + 2) = t + 1 + 2 * (i + 1) + j by omega] at this
        rw [this, encL]
        rfl) (fun j hj => by
        have := cc (c.1.length + c.2.length + j) (by omega)
        rw [show fr + c.1.length + c.2.length + j = fr + (c.1.length + c.2.length + j) by omega, this, List.getD_eq_getElem?_getD, List.getElem?_append_right (by omega), List.getElem?_append_right (by omega), show c.1.length + c.2.length + j - c.1.length - c.2.length = j by omega, ← List.getD_eq_getElem?_getD]) (by omega) (fun c' hc' => hV c' (List.mem_cons_of_mem _ hc')) hv1'
      refine ⟨F', ?_, fun a ha => by rw [x2 a ha, g2 a ha]⟩
      simp (disch := first | assumption | decide | omega) only [hz, z1, z2, gg, hy, x1, lit, lt64, ofI1, some_bind, if_ib', zB_ib, zBn0, zBn1, zBn, dN_n, nI_add, nI_mul, nI_md, nI_sub, nI_div, md, le_pred, lt_T, lt_F, le_T, le_F, eq_T, eq_F, ng_le, ng_lt, lt_ng, le_ng, eq_ng, max_n, min_n, and_true, true_and, and_false, false_and, and_self, if_true, if_false, ite_self, ↓reduceIte, m_in32, m_isC, m_isS, m_isJ hs, m_jnt, m_er hs, gr_86_0 hs, gr_86_1 hs, gr_86_2 hs, gr_86_4 hs, gr_86_5 hs, gr_86_6 hs, gr_86_7 hs, gr_86_8 hs, gr_86_15 hs, gr_86_16 hs, gr_86_17 hs, gr_86_18 hs, gr_86_19 hs, gr_86_20 hs, gr_86_21 hs, gr_86_27 hs, gr_86_28 hs, gr_86_29 hs, ko_86 hs, gi_86 hs, pi_86 hs, al_87 hs, ai_87 hs, ui_87 hs, al_88 hs, ai_88 hs, ui_88 hs, al_89 hs, ai_89 hs, ui_89 hs, al_90 hs, ai_90 hs, ui_90 hs, al_91 hs, ai_91 hs, ui_91 hs, al_92 hs, ai_92 hs, ui_92 hs, al_93 hs, ai_93 hs, ui_93 hs, al_94 hs, ai_94 hs, ui_94 hs, al_95 hs, ai_95 hs, ui_95 hs, al_96 hs, ai_96 hs, ui_96 hs, al_97 hs, ai_97 hs, ui_97 hs, al_98 hs, ai_98 hs, ui_98 hs, al_99 hs, ai_99 hs, ui_99 hs, al_100 hs, ai_100 hs, ui_100 hs, al_101 hs, ai_101 hs, ui_101 hs, al_102 hs, ai_102 hs, ui_102 hs, al_103 hs, ai_103 hs, ui_103 hs, al_104 hs, ai_104 hs, ui_104 hs]
end T08
