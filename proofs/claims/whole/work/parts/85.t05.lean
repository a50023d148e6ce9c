/-! the reference's reader beside the parser -/
section T05
variable {h : mh_H} {F : F2} {Z : Z1} {T L : List Nat} {u N p f o : Nat} {g : Option (Nat → RR)} {kB : mh_H → Nat → Option mh_H}
def r83 (F : F2) (p o f n : Nat) : F2 := fun a j => if a = 86 then (if j = 11 then nI p else if j = 12 then nI o else if j = 14 then nI f else if j = 9 then nI n else F a j) else F a j
def rs (F : F2) (p o f : Nat) (L : List Nat) : F2 := r83 (lsF F 93 L) p o f L.length
theorem rs_11 : rs F p o f L 86 11 = nI p := rfl
theorem rs_12 : rs F p o f L 86 12 = nI o := rfl
theorem rs_14 : rs F p o f L 86 14 = nI f := rfl
theorem rs_9 : rs F p o f L 86 9 = nI L.length := rfl
theorem rs_x {j : Nat} (h1 : j ≠ 11) (h2 : j ≠ 12) (h3 : j ≠ 14) (h4 : j ≠ 9) : rs F p o f L 86 j = F 86 j := by
  unfold rs r83
  rw [if_pos rfl, if_neg h1, if_neg h2, if_neg h3, if_neg h4, lsF_o F L (by decide)]
theorem rs_o {a : Nat} (h1 : a ≠ 86) (h2 : a ≠ 93) : rs F p o f L a = F a := by
  funext j
  unfold rs r83
  rw [if_neg h1, lsF_o F L h2]
theorem r83_o {G : F2} {n a i : Nat} {x : Int32} (ha : a ≠ 86) : up2 (r83 G p o f n) a i x = r83 (up2 G a i x) p o f n := by
  funext b j
  unfold up2 r83
  by_cases h1 : b = 86
  · have h2 : ¬ b = a := by omega
    simp only [h1, if_true]
    rw [if_neg (by omega)]
    rw [if_neg (show ¬ (86 = a ∧ j = i) by omega)]
  · simp only [h1, if_false]
theorem r83_u {G : F2} {n i : Nat} {x : Int32} (p' o' f' n' : Nat) (hx : ∀ j, (if j = i then x else if j = 11 then nI p else if j = 12 then nI o else if j = 14 then nI f else if j = 9 then nI n else G 86 j) = (if j = 11 then nI p' else if j = 12 then nI o' else if j = 14 then nI f' else if j = 9 then nI n' else G 86 j)) : up2 (r83 G p o f n) 86 i x = r83 G p' o' f' n' := by
  funext b j
  unfold up2 r83
  by_cases h1 : b = 86
  · have := hx j
    simp only [h1, true_and, if_true]
    exact this
  · simp only [h1, false_and, if_false]
theorem rs_u11 (x : Nat) : up2 (rs F p o f L) 86 11 (nI x) = rs F x o f L := r83_u x o f L.length (fun j => by
  by_cases h1 : j = 11
  · rw [if_pos h1, if_pos h1]
  · rw [if_neg h1, if_neg h1, if_neg h1])
theorem rs_u12 (x : Nat) : up2 (rs F p o f L) 86 12 (nI x) = rs F p x f L := r83_u p x f L.length (fun j => by
  by_cases h1 : j = 12
  · rw [if_pos h1, if_neg (by omega), if_pos h1]
  · rw [if_neg h1, if_neg h1, if_neg h1])
theorem rs_u14 (x : Nat) : up2 (rs F p o f L) 86 14 (nI x) = rs F p o x L := r83_u p o x L.length (fun j => by
  by_cases h1 : j = 14
  · rw [if_pos h1, if_neg (by omega), if_neg (by omega), if_pos h1]
  · rw [if_neg h1, if_neg h1, if_neg h1])
theorem rs_push (c : Nat) : up2 (up2 (rs F p o f L) 93 L.length (nI c)) 86 9 (nI (L.length + 1)) = rs F p o f (L ++ [c]) := by
  unfold rs
  rw [r83_o (by decide), lsF_ad, List.length_append]
  refine r83_u p o f (L.length + [c].length) (fun j => ?_)
  by_cases h1 : j = 9
  · rw [if_pos h1, if_neg (by omega), if_neg (by omega), if_neg (by omega), if_pos h1]
    rfl
  · rw [if_neg h1, if_neg h1, if_neg h1]
theorem rs_u90 (c : Nat) : up2 (rs F p o f L) 93 L.length (nI c) 86 = rs F p o f L 86 := up2_o (by decide)
theorem rs_nil : rs F p o f [] = r83 F p o f 0 := by
  unfold rs
  rw [lsF_0]
  rfl
/-- the reference stands before a text -/
def MT (F : F2) (Z : Z1) (T : List Nat) (u : Nat) : Prop := Z 6 = T.length ∧ BY T ∧ (∀ i, i < T.length → Z (7710 + i) = chL T i) ∧ F 86 13 = nI u ∧ u < 2
theorem pb_83 (hs : Sh h) (F : F2) {x : Nat} (hx : x ≤ 1) : pB (mh_w h (gz F Z)) 12 86 14 (nI x) = some (mh_w h (gz (up2 F 86 14 (nI x)) Z)) := by
  rw [pB_s hs _ (by decide) (by decide) (by rcases (show x = 0 ∨ x = 1 by omega) with rfl | rfl; exact Or.inl rfl; exact Or.inr rfl), gz_upo F Z (by decide)]
theorem m_here (hs : Sh h) (hM : MT F Z T u) (N : Nat) (hp : p ≤ T.length) : D_X12_here N (mh_w h (gz (rs F p o 0 L) Z)) 86 = some (nxI T p, mh_w h (gz (rs F p o 0 L) Z)) := by
  obtain ⟨hn, hB, hC, -, hu⟩ := hM
  have h60 := hB.1
  unfold nxI
  by_cases q : p < T.length
  · rw [if_pos q]
    have e := hC p q
    simp (disch := first | assumption | decide | omega) only [D_X12_here, rs_11, rs_14, hn, e, lit, lt64, ofI1, some_bind, if_ib', zB_ib, zBn0, zBn1, zBn, dN_n, nI_add, nI_mul, nI_md, nI_sub, nI_div, md, le_pred, lt_T, lt_F, le_T, le_F, eq_T, eq_F, ng_le, ng_lt, lt_ng, le_ng, eq_ng, max_n, min_n, and_true, true_and, and_false, false_and, and_self, if_true, if_false, ite_self, ↓reduceIte, m_in32, m_isC, m_isS, m_isJ hs, m_jnt, m_er hs, gr_86_0 hs, gr_86_1 hs, gr_86_2 hs, gr_86_4 hs, gr_86_5 hs, gr_86_6 hs, gr_86_7 hs, gr_86_8 hs, gr_86_15 hs, gr_86_16 hs, gr_86_17 hs, gr_86_18 hs, gr_86_19 hs, gr_86_20 hs, gr_86_21 hs, gr_86_27 hs, gr_86_28 hs, gr_86_29 hs, ko_86 hs, gi_86 hs, pi_86 hs, al_87 hs, ai_87 hs, ui_87 hs, al_88 hs, ai_88 hs, ui_88 hs, al_89 hs, ai_89 hs, ui_89 hs, al_90 hs, ai_90 hs, ui_90 hs, al_91 hs, ai_91 hs, ui_91 hs, al_92 hs, ai_92 hs, ui_92 hs, al_93 hs, ai_93 hs, ui_93 hs, al_94 hs, ai_94 hs, ui_94 hs, al_95 hs, ai_95 hs, ui_95 hs, al_96 hs, ai_96 hs, ui_96 hs, al_97 hs, ai_97 hs, ui_97 hs, al_98 hs, ai_98 hs, ui_98 hs, al_99 hs, ai_99 hs, ui_99 hs, al_100 hs, ai_100 hs, ui_100 hs, al_101 hs, ai_101 hs, ui_101 hs, al_102 hs, ai_102 hs, ui_102 hs, al_103 hs, ai_103 hs, ui_103 hs, al_104 hs, ai_104 hs, ui_104 hs]
  · rw [if_neg q]
    simp (disch := first | assumption | decide | omega) only [D_X12_here, rs_11, rs_14, hn, lit, lt64, ofI1, some_bind, if_ib', zB_ib, zBn0, zBn1, zBn, dN_n, nI_add, nI_mul, nI_md, nI_sub, nI_div, md, le_pred, lt_T, lt_F, le_T, le_F, eq_T, eq_F, ng_le, ng_lt, lt_ng, le_ng, eq_ng, max_n, min_n, and_true, true_and, and_false, false_and, and_self, if_true, if_false, ite_self, ↓reduceIte, m_in32, m_isC, m_isS, m_isJ hs, m_jnt, m_er hs, gr_86_0 hs, gr_86_1 hs, gr_86_2 hs, gr_86_4 hs, gr_86_5 hs, gr_86_6 hs, gr_86_7 hs, gr_86_8 hs, gr_86_15 hs, gr_86_16 hs, gr_86_17 hs, gr_86_18 hs, gr_86_19 hs, gr_86_20 hs, gr_86_21 hs, gr_86_27 hs, gr_86_28 hs, gr_86_29 hs, ko_86 hs, gi_86 hs, pi_86 hs, al_87 hs, ai_87 hs, ui_87 hs, al_88 hs, ai_88 hs, ui_88 hs, al_89 hs, ai_89 hs, ui_89 hs, al_90 hs, ai_90 hs, ui_90 hs, al_91 hs, ai_91 hs, ui_91 hs, al_92 hs, ai_92 hs, ui_92 hs, al_93 hs, ai_93 hs, ui_93 hs, al_94 hs, ai_94 hs, ui_94 hs, al_95 hs, ai_95 hs, ui_95 hs, al_96 hs, ai_96 hs, ui_96 hs, al_97 hs, ai_97 hs, ui_97 hs, al_98 hs, ai_98 hs, ui_98 hs, al_99 hs, ai_99 hs, ui_99 hs, al_100 hs, ai_100 hs, ui_100 hs, al_101 hs, ai_101 hs, ui_101 hs, al_102 hs, ai_102 hs, ui_102 hs, al_103 hs, ai_103 hs, ui_103 hs, al_104 hs, ai_104 hs, ui_104 hs]
theorem m_here1 (hs : Sh h) (N : Nat) : D_X12_here N (mh_w h (gz (rs F p o 1 L) Z)) 86 = some (-nI 1, mh_w h (gz (rs F p o 1 L) Z)) := by
  simp (disch := first | assumption | decide | omega) only [D_X12_here, rs_14, lit, lt64, ofI1, some_bind, if_ib', zB_ib, zBn0, zBn1, zBn, dN_n, nI_add, nI_mul, nI_md, nI_sub, nI_div, md, le_pred, lt_T, lt_F, le_T, le_F, eq_T, eq_F, ng_le, ng_lt, lt_ng, le_ng, eq_ng, max_n, min_n, and_true, true_and, and_false, false_and, and_self, if_true, if_false, ite_self, ↓reduceIte, m_in32, m_isC, m_isS, m_isJ hs, m_jnt, m_er hs, gr_86_0 hs, gr_86_1 hs, gr_86_2 hs, gr_86_4 hs, gr_86_5 hs, gr_86_6 hs, gr_86_7 hs, gr_86_8 hs, gr_86_15 hs, gr_86_16 hs, gr_86_17 hs, gr_86_18 hs, gr_86_19 hs, gr_86_20 hs, gr_86_21 hs, gr_86_27 hs, gr_86_28 hs, gr_86_29 hs, ko_86 hs, gi_86 hs, pi_86 hs, al_87 hs, ai_87 hs, ui_87 hs, al_88 hs, ai_88 hs, ui_88 hs, al_89 hs, ai_89 hs, ui_89 hs, al_90 hs, ai_90 hs, ui_90 hs, al_91 hs, ai_91 hs, ui_91 hs, al_92 hs, ai_92 hs, ui_92 hs, al_93 hs, ai_93 hs, ui_93 hs, al_94 hs, ai_94 hs, ui_94 hs, al_95 hs, ai_95 hs, ui_95 hs, al_96 hs, ai_96 hs, ui_96 hs, al_97 hs, ai_97 hs, ui_97 hs, al_98 hs, ai_98 hs, ui_98 hs, al_99 hs, ai_99 hs, ui_99 hs, al_100 hs, ai_100 hs, ui_100 hs, al_101 hs, ai_101 hs, ui_101 hs, al_102 hs, ai_102 hs, ui_102 hs, al_103 hs, ai_103 hs, ui_103 hs, al_104 hs, ai_104 hs, ui_104 hs]
theorem m_hereT (hs : Sh h) (hM : MT F Z T u) (N : Nat) {s : Nat} (hp : p ≤ T.length) (e : chL T p = s) (hs2 : s < 256) : D_X12_here N (mh_w h (gz (rs F p o 0 L) Z)) 86 = some (nI s, mh_w h (gz (rs F p o 0 L) Z)) := by
  have hl := chL_lt (T := T) (p := p) (by omega)
  rw [m_here hs hM N hp]
  unfold nxI
  rw [if_pos hl, e]
theorem nx_ne (hB : BY T) {s : Nat} (hs2 : s < 256) (e : chL T p ≠ s) : (nxI T p = nI s) = False := by
  unfold nxI
  by_cases q2 : p < T.length
  · rw [if_pos q2]
    have := hB.2 p q2
    exact eq_F (by omega) (by omega) e
  · rw [if_neg q2]; exact m1_ne (by omega)
/-- what the reference sees; a fault hides all -/
theorem m_hereX (hs : Sh h) (hM : MT F Z T u) (N : Nat) (hp : p ≤ T.length) (hf : f ≤ 1) : ∃ x : Int32, D_X12_here N (mh_w h (gz (rs F p o f L) Z)) 86 = some (x, mh_w h (gz (rs F p o f L) Z)) ∧ ∀ s, s < 256 → (f = 0 → chL T p ≠ s) → (x = nI s) = False := by
  rcases (show f = 0 ∨ f = 1 by omega) with rfl | rfl
  · exact ⟨_, m_here hs hM N hp, fun s h1 h2 => nx_ne hM.2.1 h1 (h2 rfl)⟩
  · exact ⟨_, m_here1 hs N, fun s h1 _ => m1_ne (by omega)⟩
theorem m_takeT (hs : Sh h) (hM : MT F Z T u) (N : Nat) {s : Nat} (hp : p ≤ T.length) (e : chL T p = s) (hs2 : s < 256) : D_X12_takes_ N (mh_w h (gz (rs F p o 0 L) Z)) 86 (nI s) = some (nI 1, mh_w h (gz (rs F (p + 1) o 0 L) Z)) := by
  have hh := m_hereT (L := L) (o := o) hs hM N hp e hs2
  have h60 := hM.2.1.1
  unfold D_X12_takes_
  simp (disch := first | assumption | decide | omega) only [hh, rs_11, rs_u11, lit, lt64, ofI1, some_bind, if_ib', zB_ib, zBn0, zBn1, zBn, dN_n, nI_add, nI_mul, nI_md, nI_sub, nI_div, md, le_pred, lt_T, lt_F, le_T, le_F, eq_T, eq_F, ng_le, ng_lt, lt_ng, le_ng, eq_ng, max_n, min_n, and_true, true_and, and_false, false_and, and_self, if_true, if_false, ite_self, ↓reduceIte, m_in32, m_isC, m_isS, m_isJ hs, m_jnt, m_er hs, gr_86_0 hs, gr_86_1 hs, gr_86_2 hs, gr_86_4 hs, gr_86_5 hs, gr_86_6 hs, gr_86_7 hs, gr_86_8 hs, gr_86_15 hs, gr_86_16 hs, gr_86_17 hs, gr_86_18 hs, gr_86_19 hs, gr_86_20 hs, gr_86_21 hs, gr_86_27 hs, gr_86_28 hs, gr_86_29 hs, ko_86 hs, gi_86 hs, pi_86 hs, al_87 hs, ai_87 hs, ui_87 hs, al_88 hs, ai_88 hs, ui_88 hs, al_89 hs, ai_89 hs, ui_89 hs, al_90 hs, ai_90 hs, ui_90 hs, al_91 hs, ai_91 hs, ui_91 hs, al_92 hs, ai_92 hs, ui_92 hs, al_93 hs, ai_93 hs, ui_93 hs, al_94 hs, ai_94 hs, ui_94 hs, al_95 hs, ai_95 hs, ui_95 hs, al_96 hs, ai_96 hs, ui_96 hs, al_97 hs, ai_97 hs, ui_97 hs, al_98 hs, ai_98 hs, ui_98 hs, al_99 hs, ai_99 hs, ui_99 hs, al_100 hs, ai_100 hs, ui_100 hs, al_101 hs, ai_101 hs, ui_101 hs, al_102 hs, ai_102 hs, ui_102 hs, al_103 hs, ai_103 hs, ui_103 hs, al_104 hs, ai_104 hs, ui_104 hs]
theorem m_takeF (hs : Sh h) (hM : MT F Z T u) (N : Nat) {s : Nat} (hp : p ≤ T.length) (hf : f ≤ 1) (hs2 : s < 256) (e : f = 0 → chL T p ≠ s) : D_X12_takes_ N (mh_w h (gz (rs F p o f L) Z)) 86 (nI s) = some (nI 0, mh_w h (gz (rs F p o f L) Z)) := by
  obtain ⟨x, h1, h2⟩ := m_hereX (L := L) (o := o) hs hM N hp hf
  have h3 := h2 s hs2 e
  unfold D_X12_takes_
  simp (disch := first | assumption | decide | omega) only [h1, h3, lit, lt64, ofI1, some_bind, if_ib', zB_ib, zBn0, zBn1, zBn, dN_n, nI_add, nI_mul, nI_md, nI_sub, nI_div, md, le_pred, lt_T, lt_F, le_T, le_F, eq_T, eq_F, ng_le, ng_lt, lt_ng, le_ng, eq_ng, max_n, min_n, and_true, true_and, and_false, false_and, and_self, if_true, if_false, ite_self, ↓reduceIte, m_in32, m_isC, m_isS, m_isJ hs, m_jnt, m_er hs, gr_86_0 hs, gr_86_1 hs, gr_86_2 hs, gr_86_4 hs, gr_86_5 hs, gr_86_6 hs, gr_86_7 hs, gr_86_8 hs, gr_86_15 hs, gr_86_16 hs, gr_86_17 hs, gr_86_18 hs, gr_86_19 hs, gr_86_20 hs, gr_86_21 hs, gr_86_27 hs, gr_86_28 hs, gr_86_29 hs, ko_86 hs, gi_86 hs, pi_86 hs, al_87 hs, ai_87 hs, ui_87 hs, al_88 hs, ai_88 hs, ui_88 hs, al_89 hs, ai_89 hs, ui_89 hs, al_90 hs, ai_90 hs, ui_90 hs, al_91 hs, ai_91 hs, ui_91 hs, al_92 hs, ai_92 hs, ui_92 hs, al_93 hs, ai_93 hs, ui_93 hs, al_94 hs, ai_94 hs, ui_94 hs, al_95 hs, ai_95 hs, ui_95 hs, al_96 hs, ai_96 hs, ui_96 hs, al_97 hs, ai_97 hs, ui_97 hs, al_98 hs, ai_98 hs, ui_98 hs, al_99 hs, ai_99 hs, ui_99 hs, al_100 hs, ai_100 hs, ui_100 hs, al_101 hs, ai_101 hs, ui_101 hs, al_102 hs, ai_102 hs, ui_102 hs, al_103 hs, ai_103 hs, ui_103 hs, al_104 hs, ai_104 hs, ui_104 hs]
theorem mt_puts (hs : Sh h) (N : Nat) {c : Nat} (hL : L.length < 64) : D_X12_puts_ N (mh_w h (gz (rs F p o 0 L) Z)) 86 (nI c) = some (mh_w h (gz (rs F p o 0 (L ++ [c])) Z)) := by
  unfold D_X12_puts_
  simp (disch := first | assumption | decide | omega) only [rs_14, rs_9, rs_u90, rs_push, lit, lt64, ofI1, some_bind, if_ib', zB_ib, zBn0, zBn1, zBn, dN_n, nI_add, nI_mul, nI_md, nI_sub, nI_div, md, le_pred, lt_T, lt_F, le_T, le_F, eq_T, eq_F, ng_le, ng_lt, lt_ng, le_ng, eq_ng, max_n, min_n, and_true, true_and, and_false, false_and, and_self, if_true, if_false, ite_self, ↓reduceIte, m_in32, m_isC, m_isS, m_isJ hs, m_jnt, m_er hs, gr_86_0 hs, gr_86_1 hs, gr_86_2 hs, gr_86_4 hs, gr_86_5 hs, gr_86_6 hs, gr_86_7 hs, gr_86_8 hs, gr_86_15 hs, gr_86_16 hs, gr_86_17 hs, gr_86_18 hs, gr_86_19 hs, gr_86_20 hs, gr_86_21 hs, gr_86_27 hs, gr_86_28 hs, gr_86_29 hs, ko_86 hs, gi_86 hs, pi_86 hs, al_87 hs, ai_87 hs, ui_87 hs, al_88 hs, ai_88 hs, ui_88 hs, al_89 hs, ai_89 hs, ui_89 hs, al_90 hs, ai_90 hs, ui_90 hs, al_91 hs, ai_91 hs, ui_91 hs, al_92 hs, ai_92 hs, ui_92 hs, al_93 hs, ai_93 hs, ui_93 hs, al_94 hs, ai_94 hs, ui_94 hs, al_95 hs, ai_95 hs, ui_95 hs, al_96 hs, ai_96 hs, ui_96 hs, al_97 hs, ai_97 hs, ui_97 hs, al_98 hs, ai_98 hs, ui_98 hs, al_99 hs, ai_99 hs, ui_99 hs, al_100 hs, ai_100 hs, ui_100 hs, al_101 hs, ai_101 hs, ui_101 hs, al_102 hs, ai_102 hs, ui_102 hs, al_103 hs, ai_103 hs, ui_103 hs, al_104 hs, ai_104 hs, ui_104 hs]
theorem mt_putsF (hs : Sh h) (N : Nat) {c : Nat} : D_X12_puts_ N (mh_w h (gz (rs F p o 1 L) Z)) 86 (nI c) = some (mh_w h (gz (rs F p o 1 L) Z)) := by
  unfold D_X12_puts_
  simp (disch := first | assumption | decide | omega) only [rs_14, lit, lt64, ofI1, some_bind, if_ib', zB_ib, zBn0, zBn1, zBn, dN_n, nI_add, nI_mul, nI_md, nI_sub, nI_div, md, le_pred, lt_T, lt_F, le_T, le_F, eq_T, eq_F, ng_le, ng_lt, lt_ng, le_ng, eq_ng, max_n, min_n, and_true, true_and, and_false, false_and, and_self, if_true, if_false, ite_self, ↓reduceIte, m_in32, m_isC, m_isS, m_isJ hs, m_jnt, m_er hs, gr_86_0 hs, gr_86_1 hs, gr_86_2 hs, gr_86_4 hs, gr_86_5 hs, gr_86_6 hs, gr_86_7 hs, gr_86_8 hs, gr_86_15 hs, gr_86_16 hs, gr_86_17 hs, gr_86_18 hs, gr_86_19 hs, gr_86_20 hs, gr_86_21 hs, gr_86_27 hs, gr_86_28 hs, gr_86_29 hs, ko_86 hs, gi_86 hs, pi_86 hs, al_87 hs, ai_87 hs, ui_87 hs, al_88 hs, ai_88 hs, ui_88 hs, al_89 hs, ai_89 hs, ui_89 hs, al_90 hs, ai_90 hs, ui_90 hs, al_91 hs, ai_91 hs, ui_91 hs, al_92 hs, ai_92 hs, ui_92 hs, al_93 hs, ai_93 hs, ui_93 hs, al_94 hs, ai_94 hs, ui_94 hs, al_95 hs, ai_95 hs, ui_95 hs, al_96 hs, ai_96 hs, ui_96 hs, al_97 hs, ai_97 hs, ui_97 hs, al_98 hs, ai_98 hs, ui_98 hs, al_99 hs, ai_99 hs, ui_99 hs, al_100 hs, ai_100 hs, ui_100 hs, al_101 hs, ai_101 hs, ui_101 hs, al_102 hs, ai_102 hs, ui_102 hs, al_103 hs, ai_103 hs, ui_103 hs, al_104 hs, ai_104 hs, ui_104 hs]
theorem m_digP (hB : BY T) : (nI 48 ≤ nxI T p ∧ nxI T p ≤ nI 57) = (48 ≤ chL T p ∧ chL T p ≤ 57) := by
  apply propext
  unfold nxI
  by_cases q2 : p < T.length
  · rw [if_pos q2]
    have := hB.2 p q2
    exact and_congr (nI_leI (by decide) (by omega)) (nI_leI (by omega) (by decide))
  · rw [if_neg q2, chL_end (by omega)]
    exact ⟨fun q => absurd q.1 (by decide), fun q => by omega⟩
theorem m_digT (hB : BY T) (q : 48 ≤ chL T p ∧ chL T p ≤ 57) : (nI 48 ≤ nxI T p ∧ nxI T p ≤ nI 57) = True := by
  rw [m_digP hB]; exact eq_true q
theorem m_digF (hB : BY T) (q : ¬ (48 ≤ chL T p ∧ chL T p ≤ 57)) : (nI 48 ≤ nxI T p ∧ nxI T p ≤ nI 57) = False := by
  rw [m_digP hB]; exact eq_false q
theorem m_num (hs : Sh h) (hM : MT F Z T u) (N : Nat) : ∀ k Fu i p v, i + k = 3 → k < Fu → p ≤ T.length → L.length < 64 → v * 10 ^ k + 10 ^ k ≤ 1000 → D_X12_one_23 N kB Fu (mh_w h (gz (rs F p o 0 L) Z)) 86 (nI v) (nI i) = some (mh_w h (gz (rs F (nmb T k p v).1 o 0 (L ++ [(nmb T k p v).2])) Z)) := by
  have h60 := hM.2.1.1
  intro k
  induction k with
  | zero =>
    intro Fu i p v hi hF hp hL hv
    obtain ⟨Fu, rfl⟩ : ∃ F1, Fu = F1 + 1 := ⟨Fu - 1, by omega⟩
    have pt := mt_puts (F := F) (Z := Z) (p := p) (o := o) (c := v) hs N hL
    rw [D_X12_one_23, show i = 3 by omega]
    simp (disch := first | assumption | decide | omega) only [D_X12_one_74, pt, nmb, lit, lt64, ofI1, some_bind, if_ib', zB_ib, zBn0, zBn1, zBn, dN_n, nI_add, nI_mul, nI_md, nI_sub, nI_div, md, le_pred, lt_T, lt_F, le_T, le_F, eq_T, eq_F, ng_le, ng_lt, lt_ng, le_ng, eq_ng, max_n, min_n, and_true, true_and, and_false, false_and, and_self, if_true, if_false, ite_self, ↓reduceIte, m_in32, m_isC, m_isS, m_isJ hs, m_jnt, m_er hs, gr_86_0 hs, gr_86_1 hs, gr_86_2 hs, gr_86_4 hs, gr_86_5 hs, gr_86_6 hs, gr_86_7 hs, gr_86_8 hs, gr_86_15 hs, gr_86_16 hs, gr_86_17 hs, gr_86_18 hs, gr_86_19 hs, gr_86_20 hs, gr_86_21 hs, gr_86_27 hs, gr_86_28 hs, gr_86_29 hs, ko_86 hs, gi_86 hs, pi_86 hs, al_87 hs, ai_87 hs, ui_87 hs, al_88 hs, ai_88 hs, ui_88 hs, al_89 hs, ai_89 hs, ui_89 hs, al_90 hs, ai_90 hs, ui_90 hs, al_91 hs, ai_91 hs, ui_91 hs, al_92 hs, ai_92 hs, ui_92 hs, al_93 hs, ai_93 hs, ui_93 hs, al_94 hs, ai_94 hs, ui_94 hs, al_95 hs, ai_95 hs, ui_95 hs, al_96 hs, ai_96 hs, ui_96 hs, al_97 hs, ai_97 hs, ui_97 hs, al_98 hs, ai_98 hs, ui_98 hs, al_99 hs, ai_99 hs, ui_99 hs, al_100 hs, ai_100 hs, ui_100 hs, al_101 hs, ai_101 hs, ui_101 hs, al_102 hs, ai_102 hs, ui_102 hs, al_103 hs, ai_103 hs, ui_103 hs, al_104 hs, ai_104 hs, ui_104 hs]
  | succ k ih =>
    intro Fu i p v hi hF hp hL hv
    obtain ⟨Fu, rfl⟩ : ∃ F1, Fu = F1 + 1 := ⟨Fu - 1, by omega⟩
    have hnx := m_here (L := L) (o := o) hs hM N hp
    have hpk : 0 < 10 ^ k := Nat.pow_pos (by decide)
    have hv9 : v * 10 + 10 ≤ 1000 := by
      have h1 : (v * 10 + 10) * 1 ≤ (v * 10 + 10) * 10 ^ k := Nat.mul_le_mul_left _ hpk
      have h3 : (v * 10 + 10) * 10 ^ k = v * 10 ^ (k + 1) + 10 ^ (k + 1) := by
        rw [Nat.pow_succ, Nat.add_mul, Nat.mul_assoc, Nat.mul_comm (10 ^ k) 10]
      omega
    rw [D_X12_one_23, nmb]
    by_cases q : 48 ≤ chL T p ∧ chL T p ≤ 57
    · have hl := chL_lt (T := T) (p := p) (by omega)
      have hv2 : (v * 10 + chL T p - 48) * 10 ^ k + 10 ^ k ≤ 1000 := by
        have h1 : (v * 10 + chL T p - 48) + 1 ≤ v * 10 + 10 := by omega
        have h2 : ((v * 10 + chL T p - 48) + 1) * 10 ^ k ≤ (v * 10 + 10) * 10 ^ k := Nat.mul_le_mul_right _ h1
        rw [Nat.add_mul, Nat.one_mul] at h2
        have h3 : (v * 10 + 10) * 10 ^ k = v * 10 ^ (k + 1) + 10 ^ (k + 1) := by
          rw [Nat.pow_succ, Nat.add_mul, Nat.mul_assoc, Nat.mul_comm (10 ^ k) 10]
        omega
      have ih' := ih Fu (i + 1) (p + 1) (v * 10 + chL T p - 48) (by omega) (by omega) (by omega) hL hv2
      have en : nxI T p = nI (chL T p) := if_pos hl
      rw [if_pos q]
      rw [en] at hnx
      have q3 := q.1
      have q4 := q.2
      have em : 10 * v = v * 10 := Nat.mul_comm _ _
      simp (disch := first | assumption | decide | omega) only [hnx, mh_let_e, rs_11, rs_u11, em, ih', lit, lt64, ofI1, some_bind, if_ib', zB_ib, zBn0, zBn1, zBn, dN_n, nI_add, nI_mul, nI_md, nI_sub, nI_div, md, le_pred, lt_T, lt_F, le_T, le_F, eq_T, eq_F, ng_le, ng_lt, lt_ng, le_ng, eq_ng, max_n, min_n, and_true, true_and, and_false, false_and, and_self, if_true, if_false, ite_self, ↓reduceIte, m_in32, m_isC, m_isS, m_isJ hs, m_jnt, m_er hs, gr_86_0 hs, gr_86_1 hs, gr_86_2 hs, gr_86_4 hs, gr_86_5 hs, gr_86_6 hs, gr_86_7 hs, gr_86_8 hs, gr_86_15 hs, gr_86_16 hs, gr_86_17 hs, gr_86_18 hs, gr_86_19 hs, gr_86_20 hs, gr_86_21 hs, gr_86_27 hs, gr_86_28 hs, gr_86_29 hs, ko_86 hs, gi_86 hs, pi_86 hs, al_87 hs, ai_87 hs, ui_87 hs, al_88 hs, ai_88 hs, ui_88 hs, al_89 hs, ai_89 hs, ui_89 hs, al_90 hs, ai_90 hs, ui_90 hs, al_91 hs, ai_91 hs, ui_91 hs, al_92 hs, ai_92 hs, ui_92 hs, al_93 hs, ai_93 hs, ui_93 hs, al_94 hs, ai_94 hs, ui_94 hs, al_95 hs, ai_95 hs, ui_95 hs, al_96 hs, ai_96 hs, ui_96 hs, al_97 hs, ai_97 hs, ui_97 hs, al_98 hs, ai_98 hs, ui_98 hs, al_99 hs, ai_99 hs, ui_99 hs, al_100 hs, ai_100 hs, ui_100 hs, al_101 hs, ai_101 hs, ui_101 hs, al_102 hs, ai_102 hs, ui_102 hs, al_103 hs, ai_103 hs, ui_103 hs, al_104 hs, ai_104 hs, ui_104 hs]
    · rw [if_neg q]
      have pt := mt_puts (F := F) (Z := Z) (p := p) (o := o) (c := v) hs N hL
      simp (disch := first | assumption | decide | omega) only [D_X12_one_74, hnx, m_digF hM.2.1 q, pt, lit, lt64, ofI1, some_bind, if_ib', zB_ib, zBn0, zBn1, zBn, dN_n, nI_add, nI_mul, nI_md, nI_sub, nI_div, md, le_pred, lt_T, lt_F, le_T, le_F, eq_T, eq_F, ng_le, ng_lt, lt_ng, le_ng, eq_ng, max_n, min_n, and_true, true_and, and_false, false_and, and_self, if_true, if_false, ite_self, ↓reduceIte, m_in32, m_isC, m_isS, m_isJ hs, m_jnt, m_er hs, gr_86_0 hs, gr_86_1 hs, gr_86_2 hs, gr_86_4 hs, gr_86_5 hs, gr_86_6 hs, gr_86_7 hs, gr_86_8 hs, gr_86_15 hs, gr_86_16 hs, gr_86_17 hs, gr_86_18 hs, gr_86_19 hs, gr_86_20 hs, gr_86_21 hs, gr_86_27 hs, gr_86_28 hs, gr_86_29 hs, ko_86 hs, gi_86 hs, pi_86 hs, al_87 hs, ai_87 hs, ui_87 hs, al_88 hs, ai_88 hs, ui_88 hs, al_89 hs, ai_89 hs, ui_89 hs, al_90 hs, ai_90 hs, ui_90 hs, al_91 hs, ai_91 hs, ui_91 hs, al_92 hs, ai_92 hs, ui_92 hs, al_93 hs, ai_93 hs, ui_93 hs, al_94 hs, ai_94 hs, ui_94 hs, al_95 hs, ai_95 hs, ui_95 hs, al_96 hs, ai_96 hs, ui_96 hs, al_97 hs, ai_97 hs, ui_97 hs, al_98 hs, ai_98 hs, ui_98 hs, al_99 hs, ai_99 hs, ui_99 hs, al_100 hs, ai_100 hs, ui_100 hs, al_101 hs, ai_101 hs, ui_101 hs, al_102 hs, ai_102 hs, ui_102 hs, al_103 hs, ai_103 hs, ui_103 hs, al_104 hs, ai_104 hs, ui_104 hs]
theorem m_nam (hM : MT F Z T u) (N : Nat) (H : mh_H) : D_X12_nameOf N H (nI u) (nxI T p) = some (if nam u (chL T p) < 9 then nI (nam u (chL T p)) else -nI 1, H) := by
  have ne := fun s q => nx_ne (p := p) hM.2.1 (s := s) q
  have yes : ∀ s, s < 256 → chL T p = s → nxI T p = nI s := fun s q e => by
    unfold nxI
    rw [if_pos (chL_lt (by omega)), e]
  have hu := hM.2.2.2.2
  unfold D_X12_nameOf nam
  rcases (show u = 0 ∨ u = 1 by omega) with rfl | rfl
  · rw [if_pos (show nI 0 = 0 from rfl)]
    try rw [if_pos (show (0 : Nat) = 0 from rfl)]
    by_cases a : chL T p = 104
    · have y : nxI T p = (104 : Int32) := yes 104 (by decide) a
      rw [if_pos y, if_pos a]; rfl
    have y : ¬ nxI T p = (104 : Int32) := of_eq_false (ne 104 (by decide) a)
    rw [if_neg y, if_neg a]
    clear y a
    by_cases a : chL T p = 100
    · have y : nxI T p = (100 : Int32) := yes 100 (by decide) a
      rw [if_pos y, if_pos a]; rfl
    have y : ¬ nxI T p = (100 : Int32) := of_eq_false (ne 100 (by decide) a)
    rw [if_neg y, if_neg a]
    clear y a
    by_cases a : chL T p = 107
    · have y : nxI T p = (107 : Int32) := yes 107 (by decide) a
      rw [if_pos y, if_pos a]; rfl
    have y : ¬ nxI T p = (107 : Int32) := of_eq_false (ne 107 (by decide) a)
    rw [if_neg y, if_neg a]
    clear y a
    by_cases a : chL T p = 102
    · have y : nxI T p = (102 : Int32) := yes 102 (by decide) a
      rw [if_pos y, if_pos a]; rfl
    have y : ¬ nxI T p = (102 : Int32) := of_eq_false (ne 102 (by decide) a)
    rw [if_neg y, if_neg a]
    clear y a
    rfl
  · rw [if_neg (show ¬ nI 1 = 0 by decide)]
    try rw [if_neg (show ¬ (1 : Nat) = 0 by decide)]
    by_cases a : chL T p = 119
    · have y : nxI T p = (119 : Int32) := yes 119 (by decide) a
      rw [if_pos y, if_pos a]; rfl
    have y : ¬ nxI T p = (119 : Int32) := of_eq_false (ne 119 (by decide) a)
    rw [if_neg y, if_neg a]
    clear y a
    by_cases a : chL T p = 99
    · have y : nxI T p = (99 : Int32) := yes 99 (by decide) a
      rw [if_pos y, if_pos a]; rfl
    have y : ¬ nxI T p = (99 : Int32) := of_eq_false (ne 99 (by decide) a)
    rw [if_neg y, if_neg a]
    clear y a
    by_cases a : chL T p = 115
    · have y : nxI T p = (115 : Int32) := yes 115 (by decide) a
      rw [if_pos y, if_pos a]; rfl
    have y : ¬ nxI T p = (115 : Int32) := of_eq_false (ne 115 (by decide) a)
    rw [if_neg y, if_neg a]
    clear y a
    rfl
/-- a part of the reference's reader does what a part of the parser does -/
def MD (h : mh_H) (F : F2) (Z : Z1) (o : Nat) (L : List Nat) (r : RR) (D : Option mh_H) : Prop := D = some (mh_w h (gz (rs F r.1 o r.2.1 (L ++ r.2.2)) Z))
def KBm (h : mh_H) (F : F2) (Z : Z1) (T : List Nat) (kB : mh_H → Nat → Option mh_H) (o : Nat) (g : Option (Nat → RR)) : Prop := (o = 4 ∧ g = none) ∨ (o < 4 ∧ ∃ f, g = some f ∧ GD T f ∧ ∀ p L, p ≤ T.length → L.length ≤ p → MD h F Z (o + 1) L (f p) (kB (mh_w h (gz (rs F p (o + 1) 0 L) Z)) 86))
theorem m_one (hs : Sh h) (hM : MT F Z T u) (hN : 10000 ≤ N) (hk : KBm h F Z T kB o g) (hp : p ≤ T.length) (hL : L.length ≤ p) : MD h F Z o L (pOne T u g p) (D_X12_one N kB (mh_w h (gz (rs F p o 0 L) Z)) 86) := by
  have h60 := hM.2.1.1
  have ho : o ≤ 4 := by rcases hk with q | q <;> omega
  have hnx := m_here (L := L) (o := o) hs hM N hp
  have hnm := fun H => m_nam (p := p) hM N H
  have e13 : ∀ p o f L, rs F p o f L 86 13 = nI u := fun p o f L => (rs_x (by decide) (by decide) (by decide) (by decide)).trans hM.2.2.2.1
  have m1 := m1_neg
  have pb1 := fun (F : F2) => pb_83 (Z := Z) hs F (x := 1) (by decide)
  have pb0 := fun (F : F2) => pb_83 (Z := Z) hs F (x := 0) (by decide)
  unfold pOne MD
  by_cases q : 48 ≤ chL T p ∧ chL T p ≤ 57
  · rw [if_pos q]
    have hn := m_num (kB := kB) (L := L) (o := o) hs hM N 3 N 0 p 0 (by omega) (by omega) hp (by omega) (by decide)
    unfold D_X12_one
    simp (disch := first | assumption | decide | omega) only [hnx, m_digT hM.2.1 q, hn, lit, lt64, ofI1, some_bind, if_ib', zB_ib, zBn0, zBn1, zBn, dN_n, nI_add, nI_mul, nI_md, nI_sub, nI_div, md, le_pred, lt_T, lt_F, le_T, le_F, eq_T, eq_F, ng_le, ng_lt, lt_ng, le_ng, eq_ng, max_n, min_n, and_true, true_and, and_false, false_and, and_self, if_true, if_false, ite_self, ↓reduceIte, m_in32, m_isC, m_isS, m_isJ hs, m_jnt, m_er hs, gr_86_0 hs, gr_86_1 hs, gr_86_2 hs, gr_86_4 hs, gr_86_5 hs, gr_86_6 hs, gr_86_7 hs, gr_86_8 hs, gr_86_15 hs, gr_86_16 hs, gr_86_17 hs, gr_86_18 hs, gr_86_19 hs, gr_86_20 hs, gr_86_21 hs, gr_86_27 hs, gr_86_28 hs, gr_86_29 hs, ko_86 hs, gi_86 hs, pi_86 hs, al_87 hs, ai_87 hs, ui_87 hs, al_88 hs, ai_88 hs, ui_88 hs, al_89 hs, ai_89 hs, ui_89 hs, al_90 hs, ai_90 hs, ui_90 hs, al_91 hs, ai_91 hs, ui_91 hs, al_92 hs, ai_92 hs, ui_92 hs, al_93 hs, ai_93 hs, ui_93 hs, al_94 hs, ai_94 hs, ui_94 hs, al_95 hs, ai_95 hs, ui_95 hs, al_96 hs, ai_96 hs, ui_96 hs, al_97 hs, ai_97 hs, ui_97 hs, al_98 hs, ai_98 hs, ui_98 hs, al_99 hs, ai_99 hs, ui_99 hs, al_100 hs, ai_100 hs, ui_100 hs, al_101 hs, ai_101 hs, ui_101 hs, al_102 hs, ai_102 hs, ui_102 hs, al_103 hs, ai_103 hs, ui_103 hs, al_104 hs, ai_104 hs, ui_104 hs]
  rw [if_neg q]
  by_cases q2 : nam u (chL T p) < 9
  · rw [if_pos q2]
    obtain ⟨n1, n2, n3, n4⟩ := nam_lt q2
    have hl := chL_lt n2
    rw [if_pos q2] at hnm
    have pt := mt_puts (F := F) (Z := Z) (p := p + 1) (o := o) (L := L) (c := 1000 + nam u (chL T p)) hs N (by omega)
    unfold D_X12_one
    simp (disch := first | assumption | decide | omega) only [hnx, m_digF hM.2.1 q, e13, hnm, rs_11, rs_u11, pt, lit, lt64, ofI1, some_bind, if_ib', zB_ib, zBn0, zBn1, zBn, dN_n, nI_add, nI_mul, nI_md, nI_sub, nI_div, md, le_pred, lt_T, lt_F, le_T, le_F, eq_T, eq_F, ng_le, ng_lt, lt_ng, le_ng, eq_ng, max_n, min_n, and_true, true_and, and_false, false_and, and_self, if_true, if_false, ite_self, ↓reduceIte, m_in32, m_isC, m_isS, m_isJ hs, m_jnt, m_er hs, gr_86_0 hs, gr_86_1 hs, gr_86_2 hs, gr_86_4 hs, gr_86_5 hs, gr_86_6 hs, gr_86_7 hs, gr_86_8 hs, gr_86_15 hs, gr_86_16 hs, gr_86_17 hs, gr_86_18 hs, gr_86_19 hs, gr_86_20 hs, gr_86_21 hs, gr_86_27 hs, gr_86_28 hs, gr_86_29 hs, ko_86 hs, gi_86 hs, pi_86 hs, al_87 hs, ai_87 hs, ui_87 hs, al_88 hs, ai_88 hs, ui_88 hs, al_89 hs, ai_89 hs, ui_89 hs, al_90 hs, ai_90 hs, ui_90 hs, al_91 hs, ai_91 hs, ui_91 hs, al_92 hs, ai_92 hs, ui_92 hs, al_93 hs, ai_93 hs, ui_93 hs, al_94 hs, ai_94 hs, ui_94 hs, al_95 hs, ai_95 hs, ui_95 hs, al_96 hs, ai_96 hs, ui_96 hs, al_97 hs, ai_97 hs, ui_97 hs, al_98 hs, ai_98 hs, ui_98 hs, al_99 hs, ai_99 hs, ui_99 hs, al_100 hs, ai_100 hs, ui_100 hs, al_101 hs, ai_101 hs, ui_101 hs, al_102 hs, ai_102 hs, ui_102 hs, al_103 hs, ai_103 hs, ui_103 hs, al_104 hs, ai_104 hs, ui_104 hs]
  rw [if_neg q2]
  rw [if_neg q2] at hnm
  have stay : (o < 4 → chL T p ≠ 40) → D_X12_one N kB (mh_w h (gz (rs F p o 0 L) Z)) 86 = some (mh_w h (gz (rs F p o 1 (L ++ [])) Z)) := fun hne => by
    rw [List.append_nil]
    unfold D_X12_one
    by_cases q3 : chL T p = 40
    · have o4 : o = 4 := by
        have := fun e => hne e q3
        omega
      have en : nxI T p = nI 40 := by
        unfold nxI
        rw [if_pos (chL_lt (by omega)), q3]
      rw [en] at hnx hnm
      subst o4
      simp (disch := first | assumption | decide | omega) only [hnx, e13, hnm, m1, rs_12, pb1, rs_u14, lit, lt64, ofI1, some_bind, if_ib', zB_ib, zBn0, zBn1, zBn, dN_n, nI_add, nI_mul, nI_md, nI_sub, nI_div, md, le_pred, lt_T, lt_F, le_T, le_F, eq_T, eq_F, ng_le, ng_lt, lt_ng, le_ng, eq_ng, max_n, min_n, and_true, true_and, and_false, false_and, and_self, if_true, if_false, ite_self, ↓reduceIte, m_in32, m_isC, m_isS, m_isJ hs, m_jnt, m_er hs, gr_86_0 hs, gr_86_1 hs, gr_86_2 hs, gr_86_4 hs, gr_86_5 hs, gr_86_6 hs, gr_86_7 hs, gr_86_8 hs, gr_86_15 hs, gr_86_16 hs, gr_86_17 hs, gr_86_18 hs, gr_86_19 hs, gr_86_20 hs, gr_86_21 hs, gr_86_27 hs, gr_86_28 hs, gr_86_29 hs, ko_86 hs, gi_86 hs, pi_86 hs, al_87 hs, ai_87 hs, ui_87 hs, al_88 hs, ai_88 hs, ui_88 hs, al_89 hs, ai_89 hs, ui_89 hs, al_90 hs, ai_90 hs, ui_90 hs, al_91 hs, ai_91 hs, ui_91 hs, al_92 hs, ai_92 hs, ui_92 hs, al_93 hs, ai_93 hs, ui_93 hs, al_94 hs, ai_94 hs, ui_94 hs, al_95 hs, ai_95 hs, ui_95 hs, al_96 hs, ai_96 hs, ui_96 hs, al_97 hs, ai_97 hs, ui_97 hs, al_98 hs, ai_98 hs, ui_98 hs, al_99 hs, ai_99 hs, ui_99 hs, al_100 hs, ai_100 hs, ui_100 hs, al_101 hs, ai_101 hs, ui_101 hs, al_102 hs, ai_102 hs, ui_102 hs, al_103 hs, ai_103 hs, ui_103 hs, al_104 hs, ai_104 hs, ui_104 hs]
    · have en := nx_ne (p := p) hM.2.1 (s := 40) (by decide) q3
      simp (disch := first | assumption | decide | omega) only [hnx, m_digF hM.2.1 q, e13, hnm, m1, en, pb1, rs_u14, lit, lt64, ofI1, some_bind, if_ib', zB_ib, zBn0, zBn1, zBn, dN_n, nI_add, nI_mul, nI_md, nI_sub, nI_div, md, le_pred, lt_T, lt_F, le_T, le_F, eq_T, eq_F, ng_le, ng_lt, lt_ng, le_ng, eq_ng, max_n, min_n, and_true, true_and, and_false, false_and, and_self, if_true, if_false, ite_self, ↓reduceIte, m_in32, m_isC, m_isS, m_isJ hs, m_jnt, m_er hs, gr_86_0 hs, gr_86_1 hs, gr_86_2 hs, gr_86_4 hs, gr_86_5 hs, gr_86_6 hs, gr_86_7 hs, gr_86_8 hs, gr_86_15 hs, gr_86_16 hs, gr_86_17 hs, gr_86_18 hs, gr_86_19 hs, gr_86_20 hs, gr_86_21 hs, gr_86_27 hs, gr_86_28 hs, gr_86_29 hs, ko_86 hs, gi_86 hs, pi_86 hs, al_87 hs, ai_87 hs, ui_87 hs, al_88 hs, ai_88 hs, ui_88 hs, al_89 hs, ai_89 hs, ui_89 hs, al_90 hs, ai_90 hs, ui_90 hs, al_91 hs, ai_91 hs, ui_91 hs, al_92 hs, ai_92 hs, ui_92 hs, al_93 hs, ai_93 hs, ui_93 hs, al_94 hs, ai_94 hs, ui_94 hs, al_95 hs, ai_95 hs, ui_95 hs, al_96 hs, ai_96 hs, ui_96 hs, al_97 hs, ai_97 hs, ui_97 hs, al_98 hs, ai_98 hs, ui_98 hs, al_99 hs, ai_99 hs, ui_99 hs, al_100 hs, ai_100 hs, ui_100 hs, al_101 hs, ai_101 hs, ui_101 hs, al_102 hs, ai_102 hs, ui_102 hs, al_103 hs, ai_103 hs, ui_103 hs, al_104 hs, ai_104 hs, ui_104 hs]
  by_cases q3 : chL T p = 40
  · rw [if_pos q3]
    rcases hk with ⟨o4, rfl⟩ | ⟨o4, f, rfl, gd, kb⟩
    · exact stay (fun e => by omega)
    · have hl := chL_lt (T := T) (p := p) (by omega)
      have en : nxI T p = nI 40 := by
        unfold nxI
        rw [if_pos hl, q3]
      rw [en] at hnx hnm
      have e1 := kb (p + 1) L (by omega) (by omega)
      unfold MD at e1
      obtain ⟨a1, a2, a3, a4⟩ := gd (p + 1) (by omega)
      dsimp only
      generalize f (p + 1) = r at *
      by_cases q4 : r.2.1 = 0 ∧ chL T r.1 = 41
      · rw [if_pos q4]
        rw [q4.1] at e1
        have ht2 := m_takeT (L := L ++ r.2.2) (o := o + 1) hs hM N a2 q4.2 (by decide)
        unfold D_X12_one
        simp (disch := first | assumption | decide | omega) only [D_X12_one_175, hnx, e13, hnm, m1, rs_11, rs_12, rs_u11, rs_u12, e1, ht2, pb0, rs_u14, Nat.add_sub_cancel, lit, lt64, ofI1, some_bind, if_ib', zB_ib, zBn0, zBn1, zBn, dN_n, nI_add, nI_mul, nI_md, nI_sub, nI_div, md, le_pred, lt_T, lt_F, le_T, le_F, eq_T, eq_F, ng_le, ng_lt, lt_ng, le_ng, eq_ng, max_n, min_n, and_true, true_and, and_false, false_and, and_self, if_true, if_false, ite_self, ↓reduceIte, m_in32, m_isC, m_isS, m_isJ hs, m_jnt, m_er hs, gr_86_0 hs, gr_86_1 hs, gr_86_2 hs, gr_86_4 hs, gr_86_5 hs, gr_86_6 hs, gr_86_7 hs, gr_86_8 hs, gr_86_15 hs, gr_86_16 hs, gr_86_17 hs, gr_86_18 hs, gr_86_19 hs, gr_86_20 hs, gr_86_21 hs, gr_86_27 hs, gr_86_28 hs, gr_86_29 hs, ko_86 hs, gi_86 hs, pi_86 hs, al_87 hs, ai_87 hs, ui_87 hs, al_88 hs, ai_88 hs, ui_88 hs, al_89 hs, ai_89 hs, ui_89 hs, al_90 hs, ai_90 hs, ui_90 hs, al_91 hs, ai_91 hs, ui_91 hs, al_92 hs, ai_92 hs, ui_92 hs, al_93 hs, ai_93 hs, ui_93 hs, al_94 hs, ai_94 hs, ui_94 hs, al_95 hs, ai_95 hs, ui_95 hs, al_96 hs, ai_96 hs, ui_96 hs, al_97 hs, ai_97 hs, ui_97 hs, al_98 hs, ai_98 hs, ui_98 hs, al_99 hs, ai_99 hs, ui_99 hs, al_100 hs, ai_100 hs, ui_100 hs, al_101 hs, ai_101 hs, ui_101 hs, al_102 hs, ai_102 hs, ui_102 hs, al_103 hs, ai_103 hs, ui_103 hs, al_104 hs, ai_104 hs, ui_104 hs]
      · rw [if_neg q4]
        have ht2 := m_takeF (L := L ++ r.2.2) (o := o + 1) (s := 41) hs hM N a2 a3 (by decide) (fun e x => q4 ⟨e, x⟩)
        unfold D_X12_one
        simp (disch := first | assumption | decide | omega) only [D_X12_one_175, hnx, e13, hnm, m1, rs_11, rs_12, rs_u11, rs_u12, e1, ht2, pb1, rs_u14, Nat.add_sub_cancel, lit, lt64, ofI1, some_bind, if_ib', zB_ib, zBn0, zBn1, zBn, dN_n, nI_add, nI_mul, nI_md, nI_sub, nI_div, md, le_pred, lt_T, lt_F, le_T, le_F, eq_T, eq_F, ng_le, ng_lt, lt_ng, le_ng, eq_ng, max_n, min_n, and_true, true_and, and_false, false_and, and_self, if_true, if_false, ite_self, ↓reduceIte, m_in32, m_isC, m_isS, m_isJ hs, m_jnt, m_er hs, gr_86_0 hs, gr_86_1 hs, gr_86_2 hs, gr_86_4 hs, gr_86_5 hs, gr_86_6 hs, gr_86_7 hs, gr_86_8 hs, gr_86_15 hs, gr_86_16 hs, gr_86_17 hs, gr_86_18 hs, gr_86_19 hs, gr_86_20 hs, gr_86_21 hs, gr_86_27 hs, gr_86_28 hs, gr_86_29 hs, ko_86 hs, gi_86 hs, pi_86 hs, al_87 hs, ai_87 hs, ui_87 hs, al_88 hs, ai_88 hs, ui_88 hs, al_89 hs, ai_89 hs, ui_89 hs, al_90 hs, ai_90 hs, ui_90 hs, al_91 hs, ai_91 hs, ui_91 hs, al_92 hs, ai_92 hs, ui_92 hs, al_93 hs, ai_93 hs, ui_93 hs, al_94 hs, ai_94 hs, ui_94 hs, al_95 hs, ai_95 hs, ui_95 hs, al_96 hs, ai_96 hs, ui_96 hs, al_97 hs, ai_97 hs, ui_97 hs, al_98 hs, ai_98 hs, ui_98 hs, al_99 hs, ai_99 hs, ui_99 hs, al_100 hs, ai_100 hs, ui_100 hs, al_101 hs, ai_101 hs, ui_101 hs, al_102 hs, ai_102 hs, ui_102 hs, al_103 hs, ai_103 hs, ui_103 hs, al_104 hs, ai_104 hs, ui_104 hs]
  · rw [if_neg q3]
    exact stay (fun _ => q3)
end T05
