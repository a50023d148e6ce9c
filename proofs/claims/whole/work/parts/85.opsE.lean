/-! voice -/
section OPSE
variable {h : mh_H} {TX : Nat → Nat → (Nat → Nat) → Z1 → Prop} {G G' F0 : F2} {C C' : C2} {Z Z' : Z1} {i p : Nat}
/-- the class's trace is T -/
def psC (C : C2) (T : List Nat) : C2 := fun a j => if a = 79 ∧ j = 1 then T.length else if a = 80 ∧ j < T.length then T.getD j 0 else C a j
/-- the reference's trace is T -/
def psG (F : F2) (T : List Nat) : F2 := fun a j => if a = 86 ∧ j = 22 then nI T.length else if a = 101 ∧ j < T.length then nI (T.getD j 0) else F a j
theorem psC_n (C : C2) (T : List Nat) : psC C T 79 1 = T.length := if_pos ⟨rfl, rfl⟩
theorem psG_n (F : F2) (T : List Nat) : psG F T 86 22 = nI T.length := if_pos ⟨rfl, rfl⟩
theorem psG_k (F : F2) (T : List Nat) {j : Nat} (hj : j ≠ 22) : psG F T 86 j = F 86 j := (if_neg (by omega)).trans (if_neg (by omega))
theorem psC_o (C : C2) (T : List Nat) {a : Nat} (h1 : a ≠ 79) (h2 : a ≠ 80) : psC C T a = C a := by
  funext j
  exact (if_neg (by omega)).trans (if_neg (by omega))
theorem psG_o (F : F2) (T : List Nat) {a : Nat} (h1 : a ≠ 86) (h2 : a ≠ 101) : psG F T a = F a := by
  funext j
  exact (if_neg (by omega)).trans (if_neg (by omega))
theorem getD_app (T : List Nat) (x j : Nat) (hj : j < T.length) : (T ++ [x]).getD j 0 = T.getD j 0 := by
  rw [List.getD_eq_getElem?_getD, List.getD_eq_getElem?_getD, List.getElem?_append_left hj]
theorem getD_last (T : List Nat) (x : Nat) : (T ++ [x]).getD T.length 0 = x := by
  rw [List.getD_eq_getElem?_getD, List.getElem?_append_right (Nat.le_refl _), Nat.sub_self]
  rfl
theorem psC_add (C : C2) (T : List Nat) (x : Nat) : upC (upC (psC C T) 80 T.length x) 79 1 (T.length + 1) = psC C (T ++ [x]) := by
  funext a j
  have hl : (T ++ [x]).length = T.length + 1 := by rw [List.length_append]; rfl
  unfold upC psC
  try dsimp only
  rw [hl]
  by_cases q : a = 79 ∧ j = 1
  · rw [if_pos q, if_pos q]
  · simp only [q, if_false]
    by_cases q2 : a = 80 ∧ j = T.length
    · rw [if_pos q2, if_pos (by omega), q2.2, getD_last]
    · rw [if_neg q2]
      by_cases q3 : a = 80 ∧ j < T.length
      · rw [if_pos q3, if_pos (by omega), getD_app T x j q3.2]
      · rw [if_neg q3, if_neg (by omega)]
theorem psG_add (F : F2) (T : List Nat) (x : Nat) : up2 (up2 (psG F T) 101 T.length (nI x)) 86 22 (nI (T.length + 1)) = psG F (T ++ [x]) := by
  funext a j
  have hl : (T ++ [x]).length = T.length + 1 := by rw [List.length_append]; rfl
  unfold up2 psG
  try dsimp only
  rw [hl]
  by_cases q : a = 86 ∧ j = 22
  · rw [if_pos q, if_pos q]
  · simp only [q, if_false]
    by_cases q2 : a = 101 ∧ j = T.length
    · rw [if_pos q2, if_pos (by omega), q2.2, getD_last]
    · rw [if_neg q2]
      by_cases q3 : a = 101 ∧ j < T.length
      · rw [if_pos q3, if_pos (by omega), getD_app T x j q3.2]
      · rw [if_neg q3, if_neg (by omega)]
theorem c_add (hs : Sh h) (N : Nat) (F : F2) (C : C2) (T : List Nat) (x : Nat) (ht : T.length < 30) : D_X6_add N (mh_w h (cz F (psC C T))) 79 (nI x) = some (nI 1, mh_w h (cz F (psC C (T ++ [x])))) := by
  rw [← psC_add]
  unfold D_X6_add; try dsimp only
  repeat (first | ((with_reducible refine Eq.trans (kO_s hs _ ?_ ?_) ?_); decide; decide) | ((with_reducible refine Eq.trans (bind_of (a := ?_) ?_ _) ?_); rotate_left; (focus (simp (disch := first | assumption | decide | omega) only [psC_n, upC_o (show 79 ≠ 80 by decide), ib0, ib1, not_true_eq_false, not_false_eq_true, lit, lt64, ofI1, some_bind, if_ib', zB_ib, zBn0, zBn1, zBn, dN_n, nI_add, nI_mul, nI_md, nI_sub, nI_div, md, le_pred, lt_T, lt_F, le_T, le_F, eq_T, eq_F, ng_le, ng_lt, lt_ng, le_ng, eq_ng, max_n, min_n, and_true, true_and, and_false, false_and, and_self, if_true, if_false, ite_self, ↓reduceIte, l_within, l_isC, l_isS, bit_n, c_isJ hs, c_er hs, gr_0_0 hs, gr_0_1 hs, gr_0_2 hs, gr_0_3 hs, gr_0_4 hs, gr_0_5 hs, gr_0_6 hs, gr_0_7 hs, gr_0_8 hs, gr_0_9 hs, gr_1_3 hs, gr_1_4 hs, gr_1_5 hs, gr_1_6 hs, gr_1_7 hs, gr_1_8 hs, gr_1_9 hs, gr_1_10 hs, gr_1_11 hs, gr_1_12 hs, gr_6_3 hs, gr_6_4 hs, gr_6_5 hs, gr_6_6 hs, gr_6_7 hs, gr_6_8 hs, gr_6_9 hs, gr_6_10 hs, gr_6_11 hs, gr_16_2 hs, gr_16_3 hs, gr_16_4 hs, gr_16_5 hs, gr_16_6 hs, gr_16_7 hs, gr_23_0 hs, gr_25_0 hs, gr_27_0 hs, gr_29_0 hs, gr_32_3 hs, gr_32_4 hs, gr_32_5 hs, gr_32_6 hs, gr_32_7 hs, gr_32_8 hs, gr_32_9 hs, gr_32_10 hs, gr_32_11 hs, gr_32_12 hs, gr_37_3 hs, gr_37_4 hs, gr_37_5 hs, gr_37_6 hs, gr_37_7 hs, gr_37_8 hs, gr_37_9 hs, gr_37_10 hs, gr_37_11 hs, gr_47_2 hs, gr_47_3 hs, gr_47_4 hs, gr_47_5 hs, gr_47_6 hs, gr_47_7 hs, gr_54_0 hs, gr_56_0 hs, gr_58_0 hs, gr_60_0 hs, gr_63_3 hs, gr_63_4 hs, gr_63_5 hs, gr_63_6 hs, gr_63_7 hs, gr_63_8 hs, gr_63_9 hs, gr_63_10 hs, gr_63_11 hs, gr_73_0 hs, gr_73_1 hs, gr_73_2 hs, gr_75_0 hs, gr_79_0 hs, ko_0 hs, gi_0 hs, pi_0 hs, ko_1 hs, gi_1 hs, pi_1 hs, al_2 hs, ai_2 hs, ui_2 hs, al_3 hs, ai_3 hs, ui_3 hs, al_4 hs, ai_4 hs, ui_4 hs, ko_6 hs, gi_6 hs, pi_6 hs, al_7 hs, ai_7 hs, ui_7 hs, al_8 hs, ai_8 hs, ui_8 hs, al_9 hs, ai_9 hs, ui_9 hs, al_10 hs, ai_10 hs, ui_10 hs, al_11 hs, ai_11 hs, ui_11 hs, al_12 hs, ai_12 hs, ui_12 hs, al_13 hs, ai_13 hs, ui_13 hs, al_14 hs, ai_14 hs, ui_14 hs, al_15 hs, ai_15 hs, ui_15 hs, ko_16 hs, gi_16 hs, pi_16 hs, al_17 hs, ai_17 hs, ui_17 hs, al_18 hs, ai_18 hs, ui_18 hs, al_19 hs, ai_19 hs, ui_19 hs, al_20 hs, ai_20 hs, ui_20 hs, al_21 hs, ai_21 hs, ui_21 hs, al_22 hs, ai_22 hs, ui_22 hs, ko_23 hs, gi_23 hs, pi_23 hs, al_24 hs, ai_24 hs, ui_24 hs, ko_25 hs, gi_25 hs, pi_25 hs, al_26 hs, ai_26 hs, ui_26 hs, ko_27 hs, gi_27 hs, pi_27 hs, al_28 hs, ai_28 hs, ui_28 hs, ko_29 hs, gi_29 hs, pi_29 hs, al_30 hs, ai_30 hs, ui_30 hs, ko_31 hs, gi_31 hs, pi_31 hs, ko_32 hs, gi_32 hs, pi_32 hs, al_33 hs, ai_33 hs, ui_33 hs, al_34 hs, ai_34 hs, ui_34 hs, al_35 hs, ai_35 hs, ui_35 hs, ko_37 hs, gi_37 hs, pi_37 hs, al_38 hs, ai_38 hs, ui_38 hs, al_39 hs, ai_39 hs, ui_39 hs, al_40 hs, ai_40 hs, ui_40 hs, al_41 hs, ai_41 hs, ui_41 hs, al_42 hs, ai_42 hs, ui_42 hs, al_43 hs, ai_43 hs, ui_43 hs, al_44 hs, ai_44 hs, ui_44 hs, al_45 hs, ai_45 hs, ui_45 hs, al_46 hs, ai_46 hs, ui_46 hs, ko_47 hs, gi_47 hs, pi_47 hs, al_48 hs, ai_48 hs, ui_48 hs, al_49 hs, ai_49 hs, ui_49 hs, al_50 hs, ai_50 hs, ui_50 hs, al_51 hs, ai_51 hs, ui_51 hs, al_52 hs, ai_52 hs, ui_52 hs, al_53 hs, ai_53 hs, ui_53 hs, ko_54 hs, gi_54 hs, pi_54 hs, al_55 hs, ai_55 hs, ui_55 hs, ko_56 hs, gi_56 hs, pi_56 hs, al_57 hs, ai_57 hs, ui_57 hs, ko_58 hs, gi_58 hs, pi_58 hs, al_59 hs, ai_59 hs, ui_59 hs, ko_60 hs, gi_60 hs, pi_60 hs, al_61 hs, ai_61 hs, ui_61 hs, ko_62 hs, gi_62 hs, pi_62 hs, ko_63 hs, gi_63 hs, pi_63 hs, al_64 hs, ai_64 hs, ui_64 hs, al_65 hs, ai_65 hs, ui_65 hs, al_66 hs, ai_66 hs, ui_66 hs, al_67 hs, ai_67 hs, ui_67 hs, al_68 hs, ai_68 hs, ui_68 hs, al_69 hs, ai_69 hs, ui_69 hs, al_70 hs, ai_70 hs, ui_70 hs, al_71 hs, ai_71 hs, ui_71 hs, al_72 hs, ai_72 hs, ui_72 hs, ko_73 hs, gi_73 hs, pi_73 hs, al_74 hs, ai_74 hs, ui_74 hs, ko_75 hs, gi_75 hs, pi_75 hs, al_76 hs, ai_76 hs, ui_76 hs, al_77 hs, ai_77 hs, ui_77 hs, al_78 hs, ai_78 hs, ui_78 hs, ko_79 hs, gi_79 hs, pi_79 hs, al_80 hs, ai_80 hs, ui_80 hs, al_81 hs, ai_81 hs, ui_81 hs, al_82 hs, ai_82 hs, ui_82 hs, al_83 hs, ai_83 hs, ui_83 hs, al_84 hs, ai_84 hs, ui_84 hs, al_85 hs, ai_85 hs, ui_85 hs] <;> rfl)); try dsimp only) | ((with_reducible refine Eq.trans (if_pos ?_) ?_); (focus (simp (disch := first | assumption | decide | omega) only [psC_n, upC_o (show 79 ≠ 80 by decide), ib0, ib1, not_true_eq_false, not_false_eq_true, lit, lt64, ofI1, some_bind, if_ib', zB_ib, zBn0, zBn1, zBn, dN_n, nI_add, nI_mul, nI_md, nI_sub, nI_div, md, le_pred, lt_T, lt_F, le_T, le_F, eq_T, eq_F, ng_le, ng_lt, lt_ng, le_ng, eq_ng, max_n, min_n, and_true, true_and, and_false, false_and, and_self, if_true, if_false, ite_self, ↓reduceIte, l_within, l_isC, l_isS, bit_n, c_isJ hs, c_er hs, gr_0_0 hs, gr_0_1 hs, gr_0_2 hs, gr_0_3 hs, gr_0_4 hs, gr_0_5 hs, gr_0_6 hs, gr_0_7 hs, gr_0_8 hs, gr_0_9 hs, gr_1_3 hs, gr_1_4 hs, gr_1_5 hs, gr_1_6 hs, gr_1_7 hs, gr_1_8 hs, gr_1_9 hs, gr_1_10 hs, gr_1_11 hs, gr_1_12 hs, gr_6_3 hs, gr_6_4 hs, gr_6_5 hs, gr_6_6 hs, gr_6_7 hs, gr_6_8 hs, gr_6_9 hs, gr_6_10 hs, gr_6_11 hs, gr_16_2 hs, gr_16_3 hs, gr_16_4 hs, gr_16_5 hs, gr_16_6 hs, gr_16_7 hs, gr_23_0 hs, gr_25_0 hs, gr_27_0 hs, gr_29_0 hs, gr_32_3 hs, gr_32_4 hs, gr_32_5 hs, gr_32_6 hs, gr_32_7 hs, gr_32_8 hs, gr_32_9 hs, gr_32_10 hs, gr_32_11 hs, gr_32_12 hs, gr_37_3 hs, gr_37_4 hs, gr_37_5 hs, gr_37_6 hs, gr_37_7 hs, gr_37_8 hs, gr_37_9 hs, gr_37_10 hs, gr_37_11 hs, gr_47_2 hs, gr_47_3 hs, gr_47_4 hs, gr_47_5 hs, gr_47_6 hs, gr_47_7 hs, gr_54_0 hs, gr_56_0 hs, gr_58_0 hs, gr_60_0 hs, gr_63_3 hs, gr_63_4 hs, gr_63_5 hs, gr_63_6 hs, gr_63_7 hs, gr_63_8 hs, gr_63_9 hs, gr_63_10 hs, gr_63_11 hs, gr_73_0 hs, gr_73_1 hs, gr_73_2 hs, gr_75_0 hs, gr_79_0 hs, ko_0 hs, gi_0 hs, pi_0 hs, ko_1 hs, gi_1 hs, pi_1 hs, al_2 hs, ai_2 hs, ui_2 hs, al_3 hs, ai_3 hs, ui_3 hs, al_4 hs, ai_4 hs, ui_4 hs, ko_6 hs, gi_6 hs, pi_6 hs, al_7 hs, ai_7 hs, ui_7 hs, al_8 hs, ai_8 hs, ui_8 hs, al_9 hs, ai_9 hs, ui_9 hs, al_10 hs, ai_10 hs, ui_10 hs, al_11 hs, ai_11 hs, ui_11 hs, al_12 hs, ai_12 hs, ui_12 hs, al_13 hs, ai_13 hs, ui_13 hs, al_14 hs, ai_14 hs, ui_14 hs, al_15 hs, ai_15 hs, ui_15 hs, ko_16 hs, gi_16 hs, pi_16 hs, al_17 hs, ai_17 hs, ui_17 hs, al_18 hs, ai_18 hs, ui_18 hs, al_19 hs, ai_19 hs, ui_19 hs, al_20 hs, ai_20 hs, ui_20 hs, al_21 hs, ai_21 hs, ui_21 hs, al_22 hs, ai_22 hs, ui_22 hs, ko_23 hs, gi_23 hs, pi_23 hs, al_24 hs, ai_24 hs, ui_24 hs, ko_25 hs, gi_25 hs, pi_25 hs, al_26 hs, ai_26 hs, ui_26 hs, ko_27 hs, gi_27 hs, pi_27 hs, al_28 hs, ai_28 hs, ui_28 hs, ko_29 hs, gi_29 hs, pi_29 hs, al_30 hs, ai_30 hs, ui_30 hs, ko_31 hs, gi_31 hs, pi_31 hs, ko_32 hs, gi_32 hs, pi_32 hs, al_33 hs, ai_33 hs, ui_33 hs, al_34 hs, ai_34 hs, ui_34 hs, al_35 hs, ai_35 hs, ui_35 hs, ko_37 hs, gi_37 hs, pi_37 hs, al_38 hs, ai_38 hs, ui_38 hs, al_39 hs, ai_39 hs, ui_39 hs, al_40 hs, ai_40 hs, ui_40 hs, al_41 hs, ai_41 hs, ui_41 hs, al_42 hs, ai_42 hs, ui_42 hs, al_43 hs, ai_43 hs, ui_43 hs, al_44 hs, ai_44 hs, ui_44 hs, al_45 hs, ai_45 hs, ui_45 hs, al_46 hs, ai_46 hs, ui_46 hs, ko_47 hs, gi_47 hs, pi_47 hs, al_48 hs, ai_48 hs, ui_48 hs, al_49 hs, ai_49 hs, ui_49 hs, al_50 hs, ai_50 hs, ui_50 hs, al_51 hs, ai_51 hs, ui_51 hs, al_52 hs, ai_52 hs, ui_52 hs, al_53 hs, ai_53 hs, ui_53 hs, ko_54 hs, gi_54 hs, pi_54 hs, al_55 hs, ai_55 hs, ui_55 hs, ko_56 hs, gi_56 hs, pi_56 hs, al_57 hs, ai_57 hs, ui_57 hs, ko_58 hs, gi_58 hs, pi_58 hs, al_59 hs, ai_59 hs, ui_59 hs, ko_60 hs, gi_60 hs, pi_60 hs, al_61 hs, ai_61 hs, ui_61 hs, ko_62 hs, gi_62 hs, pi_62 hs, ko_63 hs, gi_63 hs, pi_63 hs, al_64 hs, ai_64 hs, ui_64 hs, al_65 hs, ai_65 hs, ui_65 hs, al_66 hs, ai_66 hs, ui_66 hs, al_67 hs, ai_67 hs, ui_67 hs, al_68 hs, ai_68 hs, ui_68 hs, al_69 hs, ai_69 hs, ui_69 hs, al_70 hs, ai_70 hs, ui_70 hs, al_71 hs, ai_71 hs, ui_71 hs, al_72 hs, ai_72 hs, ui_72 hs, ko_73 hs, gi_73 hs, pi_73 hs, al_74 hs, ai_74 hs, ui_74 hs, ko_75 hs, gi_75 hs, pi_75 hs, al_76 hs, ai_76 hs, ui_76 hs, al_77 hs, ai_77 hs, ui_77 hs, al_78 hs, ai_78 hs, ui_78 hs, ko_79 hs, gi_79 hs, pi_79 hs, al_80 hs, ai_80 hs, ui_80 hs, al_81 hs, ai_81 hs, ui_81 hs, al_82 hs, ai_82 hs, ui_82 hs, al_83 hs, ai_83 hs, ui_83 hs, al_84 hs, ai_84 hs, ui_84 hs, al_85 hs, ai_85 hs, ui_85 hs]; done)); try dsimp only) | ((with_reducible refine Eq.trans (if_neg ?_) ?_); (focus (simp (disch := first | assumption | decide | omega) only [psC_n, upC_o (show 79 ≠ 80 by decide), ib0, ib1, not_true_eq_false, not_false_eq_true, lit, lt64, ofI1, some_bind, if_ib', zB_ib, zBn0, zBn1, zBn, dN_n, nI_add, nI_mul, nI_md, nI_sub, nI_div, md, le_pred, lt_T, lt_F, le_T, le_F, eq_T, eq_F, ng_le, ng_lt, lt_ng, le_ng, eq_ng, max_n, min_n, and_true, true_and, and_false, false_and, and_self, if_true, if_false, ite_self, ↓reduceIte, l_within, l_isC, l_isS, bit_n, c_isJ hs, c_er hs, gr_0_0 hs, gr_0_1 hs, gr_0_2 hs, gr_0_3 hs, gr_0_4 hs, gr_0_5 hs, gr_0_6 hs, gr_0_7 hs, gr_0_8 hs, gr_0_9 hs, gr_1_3 hs, gr_1_4 hs, gr_1_5 hs, gr_1_6 hs, gr_1_7 hs, gr_1_8 hs, gr_1_9 hs, gr_1_10 hs, gr_1_11 hs, gr_1_12 hs, gr_6_3 hs, gr_6_4 hs, gr_6_5 hs, gr_6_6 hs, gr_6_7 hs, gr_6_8 hs, gr_6_9 hs, gr_6_10 hs, gr_6_11 hs, gr_16_2 hs, gr_16_3 hs, gr_16_4 hs, gr_16_5 hs, gr_16_6 hs, gr_16_7 hs, gr_23_0 hs, gr_25_0 hs, gr_27_0 hs, gr_29_0 hs, gr_32_3 hs, gr_32_4 hs, gr_32_5 hs, gr_32_6 hs, gr_32_7 hs, gr_32_8 hs, gr_32_9 hs, gr_32_10 hs, gr_32_11 hs, gr_32_12 hs, gr_37_3 hs, gr_37_4 hs, gr_37_5 hs, gr_37_6 hs, gr_37_7 hs, gr_37_8 hs, gr_37_9 hs, gr_37_10 hs, gr_37_11 hs, gr_47_2 hs, gr_47_3 hs, gr_47_4 hs, gr_47_5 hs, gr_47_6 hs, gr_47_7 hs, gr_54_0 hs, gr_56_0 hs, gr_58_0 hs, gr_60_0 hs, gr_63_3 hs, gr_63_4 hs, gr_63_5 hs, gr_63_6 hs, gr_63_7 hs, gr_63_8 hs, gr_63_9 hs, gr_63_10 hs, gr_63_11 hs, gr_73_0 hs, gr_73_1 hs, gr_73_2 hs, gr_75_0 hs, gr_79_0 hs, ko_0 hs, gi_0 hs, pi_0 hs, ko_1 hs, gi_1 hs, pi_1 hs, al_2 hs, ai_2 hs, ui_2 hs, al_3 hs, ai_3 hs, ui_3 hs, al_4 hs, ai_4 hs, ui_4 hs, ko_6 hs, gi_6 hs, pi_6 hs, al_7 hs, ai_7 hs, ui_7 hs, al_8 hs, ai_8 hs, ui_8 hs, al_9 hs, ai_9 hs, ui_9 hs, al_10 hs, ai_10 hs, ui_10 hs, al_11 hs, ai_11 hs, ui_11 hs, al_12 hs, ai_12 hs, ui_12 hs, al_13 hs, ai_13 hs, ui_13 hs, al_14 hs, ai_14 hs, ui_14 hs, al_15 hs, ai_15 hs, ui_15 hs, ko_16 hs, gi_16 hs, pi_16 hs, al_17 hs, ai_17 hs, ui_17 hs, al_18 hs, ai_18 hs, ui_18 hs, al_19 hs, ai_19 hs, ui_19 hs, al_20 hs, ai_20 hs, ui_20 hs, al_21 hs, ai_21 hs, ui_21 hs, al_22 hs, ai_22 hs, ui_22 hs, ko_23 hs, gi_23 hs, pi_23 hs, al_24 hs, ai_24 hs, ui_24 hs, ko_25 hs, gi_25 hs, pi_25 hs, al_26 hs, ai_26 hs, ui_26 hs, ko_27 hs, gi_27 hs, pi_27 hs, al_28 hs, ai_28 hs, ui_28 hs, ko_29 hs, gi_29 hs, pi_29 hs, al_30 hs, ai_30 hs, ui_30 hs, ko_31 hs, gi_31 hs, pi_31 hs, ko_32 hs, gi_32 hs, pi_32 hs, al_33 hs, ai_33 hs, ui_33 hs, al_34 hs, ai_34 hs, ui_34 hs, al_35 hs, ai_35 hs, ui_35 hs, ko_37 hs, gi_37 hs, pi_37 hs, al_38 hs, ai_38 hs, ui_38 hs, al_39 hs, ai_39 hs, ui_39 hs, al_40 hs, ai_40 hs, ui_40 hs, al_41 hs, ai_41 hs, ui_41 hs, al_42 hs, ai_42 hs, ui_42 hs, al_43 hs, ai_43 hs, ui_43 hs, al_44 hs, ai_44 hs, ui_44 hs, al_45 hs, ai_45 hs, ui_45 hs, al_46 hs, ai_46 hs, ui_46 hs, ko_47 hs, gi_47 hs, pi_47 hs, al_48 hs, ai_48 hs, ui_48 hs, al_49 hs, ai_49 hs, ui_49 hs, al_50 hs, ai_50 hs, ui_50 hs, al_51 hs, ai_51 hs, ui_51 hs, al_52 hs, ai_52 hs, ui_52 hs, al_53 hs, ai_53 hs, ui_53 hs, ko_54 hs, gi_54 hs, pi_54 hs, al_55 hs, ai_55 hs, ui_55 hs, ko_56 hs, gi_56 hs, pi_56 hs, al_57 hs, ai_57 hs, ui_57 hs, ko_58 hs, gi_58 hs, pi_58 hs, al_59 hs, ai_59 hs, ui_59 hs, ko_60 hs, gi_60 hs, pi_60 hs, al_61 hs, ai_61 hs, ui_61 hs, ko_62 hs, gi_62 hs, pi_62 hs, ko_63 hs, gi_63 hs, pi_63 hs, al_64 hs, ai_64 hs, ui_64 hs, al_65 hs, ai_65 hs, ui_65 hs, al_66 hs, ai_66 hs, ui_66 hs, al_67 hs, ai_67 hs, ui_67 hs, al_68 hs, ai_68 hs, ui_68 hs, al_69 hs, ai_69 hs, ui_69 hs, al_70 hs, ai_70 hs, ui_70 hs, al_71 hs, ai_71 hs, ui_71 hs, al_72 hs, ai_72 hs, ui_72 hs, ko_73 hs, gi_73 hs, pi_73 hs, al_74 hs, ai_74 hs, ui_74 hs, ko_75 hs, gi_75 hs, pi_75 hs, al_76 hs, ai_76 hs, ui_76 hs, al_77 hs, ai_77 hs, ui_77 hs, al_78 hs, ai_78 hs, ui_78 hs, ko_79 hs, gi_79 hs, pi_79 hs, al_80 hs, ai_80 hs, ui_80 hs, al_81 hs, ai_81 hs, ui_81 hs, al_82 hs, ai_82 hs, ui_82 hs, al_83 hs, ai_83 hs, ui_83 hs, al_84 hs, ai_84 hs, ui_84 hs, al_85 hs, ai_85 hs, ui_85 hs]; done)); try dsimp only) | (with_reducible refine Eq.trans dN24 ?_) | (with_reducible refine Eq.trans dN100 ?_) | ((with_reducible refine Eq.trans (dN_n ?_ ?_) ?_); omega; omega) | ((first | unfold D_X6_add); try dsimp only))
  try simp (disch := first | assumption | decide | omega) only [psC_n, upC_o (show 79 ≠ 80 by decide), ib0, ib1, not_true_eq_false, not_false_eq_true, lit, lt64, ofI1, some_bind, if_ib', zB_ib, zBn0, zBn1, zBn, dN_n, nI_add, nI_mul, nI_md, nI_sub, nI_div, md, le_pred, lt_T, lt_F, le_T, le_F, eq_T, eq_F, ng_le, ng_lt, lt_ng, le_ng, eq_ng, max_n, min_n, and_true, true_and, and_false, false_and, and_self, if_true, if_false, ite_self, ↓reduceIte, l_within, l_isC, l_isS, bit_n, c_isJ hs, c_er hs, gr_0_0 hs, gr_0_1 hs, gr_0_2 hs, gr_0_3 hs, gr_0_4 hs, gr_0_5 hs, gr_0_6 hs, gr_0_7 hs, gr_0_8 hs, gr_0_9 hs, gr_1_3 hs, gr_1_4 hs, gr_1_5 hs, gr_1_6 hs, gr_1_7 hs, gr_1_8 hs, gr_1_9 hs, gr_1_10 hs, gr_1_11 hs, gr_1_12 hs, gr_6_3 hs, gr_6_4 hs, gr_6_5 hs, gr_6_6 hs, gr_6_7 hs, gr_6_8 hs, gr_6_9 hs, gr_6_10 hs, gr_6_11 hs, gr_16_2 hs, gr_16_3 hs, gr_16_4 hs, gr_16_5 hs, gr_16_6 hs, gr_16_7 hs, gr_23_0 hs, gr_25_0 hs, gr_27_0 hs, gr_29_0 hs, gr_32_3 hs, gr_32_4 hs, gr_32_5 hs, gr_32_6 hs, gr_32_7 hs, gr_32_8 hs, gr_32_9 hs, gr_32_10 hs, gr_32_11 hs, gr_32_12 hs, gr_37_3 hs, gr_37_4 hs, gr_37_5 hs, gr_37_6 hs, gr_37_7 hs, gr_37_8 hs, gr_37_9 hs, gr_37_10 hs, gr_37_11 hs, gr_47_2 hs, gr_47_3 hs, gr_47_4 hs, gr_47_5 hs, gr_47_6 hs, gr_47_7 hs, gr_54_0 hs, gr_56_0 hs, gr_58_0 hs, gr_60_0 hs, gr_63_3 hs, gr_63_4 hs, gr_63_5 hs, gr_63_6 hs, gr_63_7 hs, gr_63_8 hs, gr_63_9 hs, gr_63_10 hs, gr_63_11 hs, gr_73_0 hs, gr_73_1 hs, gr_73_2 hs, gr_75_0 hs, gr_79_0 hs, ko_0 hs, gi_0 hs, pi_0 hs, ko_1 hs, gi_1 hs, pi_1 hs, al_2 hs, ai_2 hs, ui_2 hs, al_3 hs, ai_3 hs, ui_3 hs, al_4 hs, ai_4 hs, ui_4 hs, ko_6 hs, gi_6 hs, pi_6 hs, al_7 hs, ai_7 hs, ui_7 hs, al_8 hs, ai_8 hs, ui_8 hs, al_9 hs, ai_9 hs, ui_9 hs, al_10 hs, ai_10 hs, ui_10 hs, al_11 hs, ai_11 hs, ui_11 hs, al_12 hs, ai_12 hs, ui_12 hs, al_13 hs, ai_13 hs, ui_13 hs, al_14 hs, ai_14 hs, ui_14 hs, al_15 hs, ai_15 hs, ui_15 hs, ko_16 hs, gi_16 hs, pi_16 hs, al_17 hs, ai_17 hs, ui_17 hs, al_18 hs, ai_18 hs, ui_18 hs, al_19 hs, ai_19 hs, ui_19 hs, al_20 hs, ai_20 hs, ui_20 hs, al_21 hs, ai_21 hs, ui_21 hs, al_22 hs, ai_22 hs, ui_22 hs, ko_23 hs, gi_23 hs, pi_23 hs, al_24 hs, ai_24 hs, ui_24 hs, ko_25 hs, gi_25 hs, pi_25 hs, al_26 hs, ai_26 hs, ui_26 hs, ko_27 hs, gi_27 hs, pi_27 hs, al_28 hs, ai_28 hs, ui_28 hs, ko_29 hs, gi_29 hs, pi_29 hs, al_30 hs, ai_30 hs, ui_30 hs, ko_31 hs, gi_31 hs, pi_31 hs, ko_32 hs, gi_32 hs, pi_32 hs, al_33 hs, ai_33 hs, ui_33 hs, al_34 hs, ai_34 hs, ui_34 hs, al_35 hs, ai_35 hs, ui_35 hs, ko_37 hs, gi_37 hs, pi_37 hs, al_38 hs, ai_38 hs, ui_38 hs, al_39 hs, ai_39 hs, ui_39 hs, al_40 hs, ai_40 hs, ui_40 hs, al_41 hs, ai_41 hs, ui_41 hs, al_42 hs, ai_42 hs, ui_42 hs, al_43 hs, ai_43 hs, ui_43 hs, al_44 hs, ai_44 hs, ui_44 hs, al_45 hs, ai_45 hs, ui_45 hs, al_46 hs, ai_46 hs, ui_46 hs, ko_47 hs, gi_47 hs, pi_47 hs, al_48 hs, ai_48 hs, ui_48 hs, al_49 hs, ai_49 hs, ui_49 hs, al_50 hs, ai_50 hs, ui_50 hs, al_51 hs, ai_51 hs, ui_51 hs, al_52 hs, ai_52 hs, ui_52 hs, al_53 hs, ai_53 hs, ui_53 hs, ko_54 hs, gi_54 hs, pi_54 hs, al_55 hs, ai_55 hs, ui_55 hs, ko_56 hs, gi_56 hs, pi_56 hs, al_57 hs, ai_57 hs, ui_57 hs, ko_58 hs, gi_58 hs, pi_58 hs, al_59 hs, ai_59 hs, ui_59 hs, ko_60 hs, gi_60 hs, pi_60 hs, al_61 hs, ai_61 hs, ui_61 hs, ko_62 hs, gi_62 hs, pi_62 hs, ko_63 hs, gi_63 hs, pi_63 hs, al_64 hs, ai_64 hs, ui_64 hs, al_65 hs, ai_65 hs, ui_65 hs, al_66 hs, ai_66 hs, ui_66 hs, al_67 hs, ai_67 hs, ui_67 hs, al_68 hs, ai_68 hs, ui_68 hs, al_69 hs, ai_69 hs, ui_69 hs, al_70 hs, ai_70 hs, ui_70 hs, al_71 hs, ai_71 hs, ui_71 hs, al_72 hs, ai_72 hs, ui_72 hs, ko_73 hs, gi_73 hs, pi_73 hs, al_74 hs, ai_74 hs, ui_74 hs, ko_75 hs, gi_75 hs, pi_75 hs, al_76 hs, ai_76 hs, ui_76 hs, al_77 hs, ai_77 hs, ui_77 hs, al_78 hs, ai_78 hs, ui_78 hs, ko_79 hs, gi_79 hs, pi_79 hs, al_80 hs, ai_80 hs, ui_80 hs, al_81 hs, ai_81 hs, ui_81 hs, al_82 hs, ai_82 hs, ui_82 hs, al_83 hs, ai_83 hs, ui_83 hs, al_84 hs, ai_84 hs, ui_84 hs, al_85 hs, ai_85 hs, ui_85 hs]
theorem m_beg (hs : Sh h) (N : Nat) (F : F2) (T : List Nat) (x : Nat) (ht : T.length < 30) : D_X12_begins N (mh_w h (gz (psG F T) Z)) 86 (nI x) = some (mh_w h (gz (psG F (T ++ [x])) Z)) := by
  rw [← psG_add]
  unfold D_X12_begins; try dsimp only
  repeat (first | ((with_reducible refine Eq.trans (kO_s hs _ ?_ ?_) ?_); decide; decide) | ((with_reducible refine Eq.trans (bind_of (a := ?_) ?_ _) ?_); rotate_left; (focus (simp (disch := first | assumption | decide | omega) only [psG_n, up2_o (show 86 ≠ 101 by decide), ib0, ib1, not_true_eq_false, not_false_eq_true, lit, lt64, ofI1, some_bind, if_ib', zB_ib, zBn0, zBn1, zBn, dN_n, nI_add, nI_mul, nI_md, nI_sub, nI_div, md, le_pred, lt_T, lt_F, le_T, le_F, eq_T, eq_F, ng_le, ng_lt, lt_ng, le_ng, eq_ng, max_n, min_n, and_true, true_and, and_false, false_and, and_self, if_true, if_false, ite_self, ↓reduceIte, m_in32, m_isC, m_isS, m_isJ hs, m_jnt, m_er hs, gr_86_0 hs, gr_86_1 hs, gr_86_2 hs, gr_86_4 hs, gr_86_5 hs, gr_86_6 hs, gr_86_7 hs, gr_86_8 hs, gr_86_15 hs, gr_86_16 hs, gr_86_17 hs, gr_86_18 hs, gr_86_19 hs, gr_86_20 hs, gr_86_21 hs, gr_86_27 hs, gr_86_28 hs, gr_86_29 hs, ko_86 hs, gi_86 hs, pi_86 hs, al_87 hs, ai_87 hs, ui_87 hs, al_88 hs, ai_88 hs, ui_88 hs, al_89 hs, ai_89 hs, ui_89 hs, al_90 hs, ai_90 hs, ui_90 hs, al_91 hs, ai_91 hs, ui_91 hs, al_92 hs, ai_92 hs, ui_92 hs, al_93 hs, ai_93 hs, ui_93 hs, al_94 hs, ai_94 hs, ui_94 hs, al_95 hs, ai_95 hs, ui_95 hs, al_96 hs, ai_96 hs, ui_96 hs, al_97 hs, ai_97 hs, ui_97 hs, al_98 hs, ai_98 hs, ui_98 hs, al_99 hs, ai_99 hs, ui_99 hs, al_100 hs, ai_100 hs, ui_100 hs, al_101 hs, ai_101 hs, ui_101 hs, al_102 hs, ai_102 hs, ui_102 hs, al_103 hs, ai_103 hs, ui_103 hs, al_104 hs, ai_104 hs, ui_104 hs] <;> rfl)); try dsimp only) | ((with_reducible refine Eq.trans (if_pos ?_) ?_); (focus (simp (disch := first | assumption | decide | omega) only [psG_n, up2_o (show 86 ≠ 101 by decide), ib0, ib1, not_true_eq_false, not_false_eq_true, lit, lt64, ofI1, some_bind, if_ib', zB_ib, zBn0, zBn1, zBn, dN_n, nI_add, nI_mul, nI_md, nI_sub, nI_div, md, le_pred, lt_T, lt_F, le_T, le_F, eq_T, eq_F, ng_le, ng_lt, lt_ng, le_ng, eq_ng, max_n, min_n, and_true, true_and, and_false, false_and, and_self, if_true, if_false, ite_self, ↓reduceIte, m_in32, m_isC, m_isS, m_isJ hs, m_jnt, m_er hs, gr_86_0 hs, gr_86_1 hs, gr_86_2 hs, gr_86_4 hs, gr_86_5 hs, gr_86_6 hs, gr_86_7 hs, gr_86_8 hs, gr_86_15 hs, gr_86_16 hs, gr_86_17 hs, gr_86_18 hs, gr_86_19 hs, gr_86_20 hs, gr_86_21 hs, gr_86_27 hs, gr_86_28 hs, gr_86_29 hs, ko_86 hs, gi_86 hs, pi_86 hs, al_87 hs, ai_87 hs, ui_87 hs, al_88 hs, ai_88 hs, ui_88 hs, al_89 hs, ai_89 hs, ui_89 hs, al_90 hs, ai_90 hs, ui_90 hs, al_91 hs, ai_91 hs, ui_91 hs, al_92 hs, ai_92 hs, ui_92 hs, al_93 hs, ai_93 hs, ui_93 hs, al_94 hs, ai_94 hs, ui_94 hs, al_95 hs, ai_95 hs, ui_95 hs, al_96 hs, ai_96 hs, ui_96 hs, al_97 hs, ai_97 hs, ui_97 hs, al_98 hs, ai_98 hs, ui_98 hs, al_99 hs, ai_99 hs, ui_99 hs, al_100 hs, ai_100 hs, ui_100 hs, al_101 hs, ai_101 hs, ui_101 hs, al_102 hs, ai_102 hs, ui_102 hs, al_103 hs, ai_103 hs, ui_103 hs, al_104 hs, ai_104 hs, ui_104 hs]; done)); try dsimp only) | ((with_reducible refine Eq.trans (if_neg ?_) ?_); (focus (simp (disch := first | assumption | decide | omega) only [psG_n, up2_o (show 86 ≠ 101 by decide), ib0, ib1, not_true_eq_false, not_false_eq_true, lit, lt64, ofI1, some_bind, if_ib', zB_ib, zBn0, zBn1, zBn, dN_n, nI_add, nI_mul, nI_md, nI_sub, nI_div, md, le_pred, lt_T, lt_F, le_T, le_F, eq_T, eq_F, ng_le, ng_lt, lt_ng, le_ng, eq_ng, max_n, min_n, and_true, true_and, and_false, false_and, and_self, if_true, if_false, ite_self, ↓reduceIte, m_in32, m_isC, m_isS, m_isJ hs, m_jnt, m_er hs, gr_86_0 hs, gr_86_1 hs, gr_86_2 hs, gr_86_4 hs, gr_86_5 hs, gr_86_6 hs, gr_86_7 hs, gr_86_8 hs, gr_86_15 hs, gr_86_16 hs, gr_86_17 hs, gr_86_18 hs, gr_86_19 hs, gr_86_20 hs, gr_86_21 hs, gr_86_27 hs, gr_86_28 hs, gr_86_29 hs, ko_86 hs, gi_86 hs, pi_86 hs, al_87 hs, ai_87 hs, ui_87 hs, al_88 hs, ai_88 hs, ui_88 hs, al_89 hs, ai_89 hs, ui_89 hs, al_90 hs, ai_90 hs, ui_90 hs, al_91 hs, ai_91 hs, ui_91 hs, al_92 hs, ai_92 hs, ui_92 hs, al_93 hs, ai_93 hs, ui_93 hs, al_94 hs, ai_94 hs, ui_94 hs, al_95 hs, ai_95 hs, ui_95 hs, al_96 hs, ai_96 hs, ui_96 hs, al_97 hs, ai_97 hs, ui_97 hs, al_98 hs, ai_98 hs, ui_98 hs, al_99 hs, ai_99 hs, ui_99 hs, al_100 hs, ai_100 hs, ui_100 hs, al_101 hs, ai_101 hs, ui_101 hs, al_102 hs, ai_102 hs, ui_102 hs, al_103 hs, ai_103 hs, ui_103 hs, al_104 hs, ai_104 hs, ui_104 hs]; done)); try dsimp only) | (with_reducible refine Eq.trans dN24 ?_) | (with_reducible refine Eq.trans dN100 ?_) | ((with_reducible refine Eq.trans (dN_n ?_ ?_) ?_); omega; omega) | ((first | unfold D_X12_begins); try dsimp only))
  try simp (disch := first | assumption | decide | omega) only [psG_n, up2_o (show 86 ≠ 101 by decide), ib0, ib1, not_true_eq_false, not_false_eq_true, lit, lt64, ofI1, some_bind, if_ib', zB_ib, zBn0, zBn1, zBn, dN_n, nI_add, nI_mul, nI_md, nI_sub, nI_div, md, le_pred, lt_T, lt_F, le_T, le_F, eq_T, eq_F, ng_le, ng_lt, lt_ng, le_ng, eq_ng, max_n, min_n, and_true, true_and, and_false, false_and, and_self, if_true, if_false, ite_self, ↓reduceIte, m_in32, m_isC, m_isS, m_isJ hs, m_jnt, m_er hs, gr_86_0 hs, gr_86_1 hs, gr_86_2 hs, gr_86_4 hs, gr_86_5 hs, gr_86_6 hs, gr_86_7 hs, gr_86_8 hs, gr_86_15 hs, gr_86_16 hs, gr_86_17 hs, gr_86_18 hs, gr_86_19 hs, gr_86_20 hs, gr_86_21 hs, gr_86_27 hs, gr_86_28 hs, gr_86_29 hs, ko_86 hs, gi_86 hs, pi_86 hs, al_87 hs, ai_87 hs, ui_87 hs, al_88 hs, ai_88 hs, ui_88 hs, al_89 hs, ai_89 hs, ui_89 hs, al_90 hs, ai_90 hs, ui_90 hs, al_91 hs, ai_91 hs, ui_91 hs, al_92 hs, ai_92 hs, ui_92 hs, al_93 hs, ai_93 hs, ui_93 hs, al_94 hs, ai_94 hs, ui_94 hs, al_95 hs, ai_95 hs, ui_95 hs, al_96 hs, ai_96 hs, ui_96 hs, al_97 hs, ai_97 hs, ui_97 hs, al_98 hs, ai_98 hs, ui_98 hs, al_99 hs, ai_99 hs, ui_99 hs, al_100 hs, ai_100 hs, ui_100 hs, al_101 hs, ai_101 hs, ui_101 hs, al_102 hs, ai_102 hs, ui_102 hs, al_103 hs, ai_103 hs, ui_103 hs, al_104 hs, ai_104 hs, ui_104 hs]
def rT (k : Nat) : List Nat := if k = 3 then [40, 20, 10] else if k = 1 then [20, 10] else [10]
def rV (k l n : Nat) (x : Int32) : Int32 := if k = 3 then x + nI n + nI l - nI 1 else if k = 1 then x + nI l - nI 1 else x + nI l
def hT (k : Nat) : List Nat := if k = 2 ∨ k = 5 then 30 :: 11 :: rT k else if k = 4 then 50 :: 11 :: rT k else 11 :: rT k
def hV (k l n : Nat) (x : Int32) : Int32 := if k = 2 ∨ k = 5 then rV k l n x * nI 2 ^^^ nI n else if k = 4 then rV k l n x * nI 2 + nI n else rV k l n x * nI 2
def sT (k : Nat) : List Nat := if k = 3 then 41 :: 12 :: hT k else if k = 4 then 51 :: 12 :: hT k else 12 :: hT k
def spV (k l n : Nat) (x : Int32) : Int32 := if k = 3 then (hV k l n x - nI n) * nI 3 else if k = 4 then nI 0 - (hV k l n x - nI n) else hV k l n x - nI n
def pV (l n : Nat) (x : Int32) : Int32 := if n = l then nI 0 else x / (nI n - nI l)
def tT (k l n : Nat) : List Nat := if k = 1 ∨ k = 3 then (if n = l then [21, 13] else 21 :: 13 :: rT k) else if k = 5 then 60 :: (rT k ++ [13]) else [13]
def tV (k l n : Nat) (x : Int32) : Int32 := if k = 1 ∨ k = 3 then (if n = l then nI 0 else pV l n x + rV k l n (nI 1)) else if k = 5 then rV k l n x - pV l n x else pV l n x
theorem rT_le (k : Nat) : (rT k).length ≤ 3 := by unfold rT; split <;> (try split) <;> decide
theorem c_x9r (hs : Sh h) (N : Nat) (C : C2) (q : WY h F0 Z i p) (T : List Nat) (x : Int32) (ht : T.length < 30) : D_X9_runs N (mh_w h (cz F0 (psC C T))) p x 79 = some (x + nI (Z (223 + 215 * i)), mh_w h (cz F0 (psC C (T ++ [10])))) := by
  unfold D_X9_runs
  rw [ko_79 hs]
  simp only [lit, c_add hs N _ C T 10 ht, some_bind, gW_2 q]
theorem c_x2r (hs : Sh h) (N : Nat) (C : C2) (q : WY h F0 Z i p) (T : List Nat) (x : Int32) (ht : T.length + 1 < 30) : D_X2_runs N (mh_w h (cz F0 (psC C T))) p x 79 = some (x + nI (Z (223 + 215 * i)) - nI 1, mh_w h (cz F0 (psC C (T ++ [20, 10])))) := by
  have e : T ++ [20, 10] = (T ++ [20]) ++ [10] := by simp
  unfold D_X2_runs
  rw [ko_79 hs, e]
  simp only [lit, c_add hs N _ C T 20 (by omega), some_bind, kW_s _ q, c_x9r hs N C q (T ++ [20]) x (by simp; omega)]
theorem c_x3r (hs : Sh h) (N : Nat) (C : C2) (q : WY h F0 Z i p) (T : List Nat) (x : Int32) (ht : T.length + 2 < 30) : D_X3_runs N (mh_w h (cz F0 (psC C T))) p x 79 = some (x + nI (Z (224 + 215 * i)) + nI (Z (223 + 215 * i)) - nI 1, mh_w h (cz F0 (psC C (T ++ [40, 20, 10])))) := by
  have e : T ++ [40, 20, 10] = (T ++ [40]) ++ [20, 10] := by simp
  unfold D_X3_runs
  rw [ko_79 hs, e]
  simp only [lit, c_add hs N _ C T 40 (by omega), some_bind, kW_s _ q, gW_3 q, c_x2r hs N C q (T ++ [40]) _ (by simp; omega)]
theorem c_runs (hs : Sh h) (N : Nat) (C : C2) (q : WY h F0 Z i p) (hk : Z (220 + 215 * i) ≤ 5) (T : List Nat) (x : Int32) (ht : T.length + 2 < 30) : V_Way_runs N (mh_w h (cz F0 (psC C T))) p x 79 = some (rV (Z (220 + 215 * i)) (Z (223 + 215 * i)) (Z (224 + 215 * i)) x, mh_w h (cz F0 (psC C (T ++ rT (Z (220 + 215 * i)))))) := by
  have a9 := c_x9r hs N C q T x (by omega)
  have a2 := c_x2r hs N C q T x (by omega)
  have a3 := c_x3r hs N C q T x (by omega)
  unfold V_Way_runs rV rT
  rcases (show Z (220 + 215 * i) = 0 ∨ Z (220 + 215 * i) = 1 ∨ Z (220 + 215 * i) = 2 ∨ Z (220 + 215 * i) = 3 ∨ Z (220 + 215 * i) = 4 ∨ Z (220 + 215 * i) = 5 by omega) with e | e | e | e | e | e <;> simp only [V_of _ q e, e, kc, a9, a2, a3] <;> simp (decide := true) only [if_true, if_false]
theorem c_x9h (hs : Sh h) (N : Nat) (C : C2) (q : WY h F0 Z i p) (hk : Z (220 + 215 * i) ≤ 5) (T : List Nat) (x : Int32) (ht : T.length + 3 < 30) : D_X9_holds N (mh_w h (cz F0 (psC C T))) p x 79 = some (rV (Z (220 + 215 * i)) (Z (223 + 215 * i)) (Z (224 + 215 * i)) x * nI 2, mh_w h (cz F0 (psC C (T ++ 11 :: rT (Z (220 + 215 * i)))))) := by
  have e : T ++ 11 :: rT (Z (220 + 215 * i)) = (T ++ [11]) ++ rT (Z (220 + 215 * i)) := by simp
  unfold D_X9_holds
  rw [ko_79 hs, e]
  simp only [lit, c_add hs N _ C T 11 (by omega), some_bind, c_runs hs N C q hk (T ++ [11]) x (by simp; omega)]
theorem c_holds (hs : Sh h) (N : Nat) (C : C2) (q : WY h F0 Z i p) (hk : Z (220 + 215 * i) ≤ 5) (T : List Nat) (x : Int32) (ht : T.length + 4 < 30) : V_Way_holds N (mh_w h (cz F0 (psC C T))) p x 79 = some (hV (Z (220 + 215 * i)) (Z (223 + 215 * i)) (Z (224 + 215 * i)) x, mh_w h (cz F0 (psC C (T ++ hT (Z (220 + 215 * i)))))) := by
  have a9 := c_x9h hs N C q hk T x (by omega)
  have a7 : D_X7_holds N (mh_w h (cz F0 (psC C T))) p x 79 = some (rV (Z (220 + 215 * i)) (Z (223 + 215 * i)) (Z (224 + 215 * i)) x * nI 2 ^^^ nI (Z (224 + 215 * i)), mh_w h (cz F0 (psC C (T ++ 30 :: 11 :: rT (Z (220 + 215 * i)))))) := by
    have e : T ++ 30 :: 11 :: rT (Z (220 + 215 * i)) = (T ++ [30]) ++ 11 :: rT (Z (220 + 215 * i)) := by simp
    unfold D_X7_holds
    rw [ko_79 hs, e]
    simp only [lit, c_add hs N _ C T 30 (by omega), some_bind, kW_s _ q, gW_3 q, c_x9h hs N C q hk (T ++ [30]) x (by simp; omega)]
  have a4 : D_X4_holds N (mh_w h (cz F0 (psC C T))) p x 79 = some (rV (Z (220 + 215 * i)) (Z (223 + 215 * i)) (Z (224 + 215 * i)) x * nI 2 + nI (Z (224 + 215 * i)), mh_w h (cz F0 (psC C (T ++ 50 :: 11 :: rT (Z (220 + 215 * i)))))) := by
    have e : T ++ 50 :: 11 :: rT (Z (220 + 215 * i)) = (T ++ [50]) ++ 11 :: rT (Z (220 + 215 * i)) := by simp
    unfold D_X4_holds
    rw [ko_79 hs, e]
    simp only [lit, c_add hs N _ C T 50 (by omega), some_bind, kW_s _ q, gW_3 q, c_x9h hs N C q hk (T ++ [50]) x (by simp; omega)]
  unfold V_Way_holds hV hT
  rcases (show Z (220 + 215 * i) = 0 ∨ Z (220 + 215 * i) = 1 ∨ Z (220 + 215 * i) = 2 ∨ Z (220 + 215 * i) = 3 ∨ Z (220 + 215 * i) = 4 ∨ Z (220 + 215 * i) = 5 by omega) with e | e | e | e | e | e <;> simp only [V_of _ q e, e, kc, a9, a7, a4] <;> simp (decide := true) only [if_true, if_false]
theorem c_x9s (hs : Sh h) (N : Nat) (C : C2) (q : WY h F0 Z i p) (hk : Z (220 + 215 * i) ≤ 5) (T : List Nat) (x : Int32) (ht : T.length + 5 < 30) : D_X9_spills N (mh_w h (cz F0 (psC C T))) p x 79 = some (hV (Z (220 + 215 * i)) (Z (223 + 215 * i)) (Z (224 + 215 * i)) x - nI (Z (224 + 215 * i)), mh_w h (cz F0 (psC C (T ++ 12 :: hT (Z (220 + 215 * i)))))) := by
  have e : T ++ 12 :: hT (Z (220 + 215 * i)) = (T ++ [12]) ++ hT (Z (220 + 215 * i)) := by simp
  unfold D_X9_spills
  rw [ko_79 hs, e]
  simp only [lit, c_add hs N _ C T 12 (by omega), some_bind, gW_3 q, c_holds hs N C q hk (T ++ [12]) x (by simp; omega)]
theorem c_spills (hs : Sh h) (N : Nat) (C : C2) (q : WY h F0 Z i p) (hk : Z (220 + 215 * i) ≤ 5) (T : List Nat) (x : Int32) (ht : T.length + 6 < 30) : V_Way_spills N (mh_w h (cz F0 (psC C T))) p x 79 = some (spV (Z (220 + 215 * i)) (Z (223 + 215 * i)) (Z (224 + 215 * i)) x, mh_w h (cz F0 (psC C (T ++ sT (Z (220 + 215 * i)))))) := by
  have a9 := c_x9s hs N C q hk T x (by omega)
  have a3 : D_X3_spills N (mh_w h (cz F0 (psC C T))) p x 79 = some ((hV (Z (220 + 215 * i)) (Z (223 + 215 * i)) (Z (224 + 215 * i)) x - nI (Z (224 + 215 * i))) * nI 3, mh_w h (cz F0 (psC C (T ++ 41 :: 12 :: hT (Z (220 + 215 * i)))))) := by
    have e : T ++ 41 :: 12 :: hT (Z (220 + 215 * i)) = (T ++ [41]) ++ 12 :: hT (Z (220 + 215 * i)) := by simp
    unfold D_X3_spills
    rw [ko_79 hs, e]
    simp only [lit, c_add hs N _ C T 41 (by omega), some_bind, kW_s _ q, c_x9s hs N C q hk (T ++ [41]) x (by simp; omega)]
  have a4 : D_X4_spills N (mh_w h (cz F0 (psC C T))) p x 79 = some (nI 0 - (hV (Z (220 + 215 * i)) (Z (223 + 215 * i)) (Z (224 + 215 * i)) x - nI (Z (224 + 215 * i))), mh_w h (cz F0 (psC C (T ++ 51 :: 12 :: hT (Z (220 + 215 * i)))))) := by
    have e : T ++ 51 :: 12 :: hT (Z (220 + 215 * i)) = (T ++ [51]) ++ 12 :: hT (Z (220 + 215 * i)) := by simp
    unfold D_X4_spills
    rw [ko_79 hs, e]
    simp only [lit, c_add hs N _ C T 51 (by omega), some_bind, kW_s _ q, c_x9s hs N C q hk (T ++ [51]) x (by simp; omega)]
  unfold V_Way_spills spV sT
  rcases (show Z (220 + 215 * i) = 0 ∨ Z (220 + 215 * i) = 1 ∨ Z (220 + 215 * i) = 2 ∨ Z (220 + 215 * i) = 3 ∨ Z (220 + 215 * i) = 4 ∨ Z (220 + 215 * i) = 5 by omega) with e | e | e | e | e | e <;> simp only [V_of _ q e, e, kc, a9, a3, a4] <;> simp (decide := true) only [if_true, if_false]
theorem c_x9p (hs : Sh h) (N : Nat) (q : WY h F0 Z i p) (hl : Z (223 + 215 * i) ≤ 20) (hn : Z (224 + 215 * i) ≤ 99) (C : C2) : D_X9_isParted N (mh_w h (cz F0 C)) p = some (ib (Z (224 + 215 * i) = Z (223 + 215 * i)) inferInstance, mh_w h (cz F0 C)) := by
  unfold D_X9_isParted
  rw [gW_3 q, some_bind, gW_2 q, some_bind]
  by_cases e : Z (224 + 215 * i) = Z (223 + 215 * i)
  · rw [if_pos (by rw [e]), ibT e]; rfl
  · rw [if_neg (fun q => e ((nI_eq (by omega) (by omega)).mp q)), ibF e]; rfl
theorem c_parted (hs : Sh h) (N : Nat) (q : WY h F0 Z i p) (hk : Z (220 + 215 * i) ≤ 5) (hl : Z (223 + 215 * i) ≤ 20) (hn : Z (224 + 215 * i) ≤ 99) (C : C2) : V_Way_isParted N (mh_w h (cz F0 C)) p = some (ib (Z (224 + 215 * i) = Z (223 + 215 * i)) inferInstance, mh_w h (cz F0 C)) := by
  have a9 := c_x9p hs N q hl hn C
  unfold V_Way_isParted
  rcases (show Z (220 + 215 * i) = 0 ∨ Z (220 + 215 * i) = 1 ∨ Z (220 + 215 * i) = 2 ∨ Z (220 + 215 * i) = 3 ∨ Z (220 + 215 * i) = 4 ∨ Z (220 + 215 * i) = 5 by omega) with e | e | e | e | e | e <;> simp only [V_of _ q e, e, kc, a9] <;> simp (decide := true) only [if_true, if_false]
theorem c_x9t (hs : Sh h) (N : Nat) (C : C2) (q : WY h F0 Z i p) (hl : Z (223 + 215 * i) ≤ 20) (hn : Z (224 + 215 * i) ≤ 99) (T : List Nat) (x : Int32) (ht : T.length < 30) : D_X9_tells N (mh_w h (cz F0 (psC C T))) p x 79 = some (pV (Z (223 + 215 * i)) (Z (224 + 215 * i)) x, mh_w h (cz F0 (psC C (T ++ [13])))) := by
  unfold D_X9_tells
  rw [ko_79 hs]
  simp only [lit, c_add hs N _ C T 13 (by omega), some_bind, gW_3 q, gW_2 q]
  unfold D_X11_by pV
  by_cases e : Z (224 + 215 * i) = Z (223 + 215 * i)
  · rw [if_pos e, e, Int32.sub_self]; rfl
  · have e0 : ¬ nI (Z (224 + 215 * i)) - nI (Z (223 + 215 * i)) = 0 := fun z => e ((nI_eq (by omega) (by omega)).mp (Int32.sub_eq_iff_eq_add.mp z |>.trans (Int32.zero_add _)))
    rw [if_neg e, if_neg e0]
    unfold dN
    rw [if_neg e0]
    rfl
theorem c_tells (hs : Sh h) (N : Nat) (C : C2) (q : WY h F0 Z i p) (hk : Z (220 + 215 * i) ≤ 5) (hl : Z (223 + 215 * i) ≤ 20) (hn : Z (224 + 215 * i) ≤ 99) (T : List Nat) (x : Int32) (ht : T.length + 6 < 30) : V_Way_tells N (mh_w h (cz F0 (psC C T))) p x 79 = some (tV (Z (220 + 215 * i)) (Z (223 + 215 * i)) (Z (224 + 215 * i)) x, mh_w h (cz F0 (psC C (T ++ tT (Z (220 + 215 * i)) (Z (223 + 215 * i)) (Z (224 + 215 * i)))))) := by
  have a9 := c_x9t hs N C q hl hn T x (by omega)
  have a0 : D_X0_tells N (mh_w h (cz F0 (psC C T))) p x 79 = (V_Blind_runs N (mh_w h (cz F0 (psC C (T ++ [60])))) p x 79).bind fun q2 => kW q2.2 p <| (D_X9_tells N q2.2 p x 79).bind fun q3 => some (q2.1 - q3.1, q3.2) := by
    unfold D_X0_tells
    rw [ko_79 hs]
    simp only [lit, c_add hs N _ C T 60 (by omega), some_bind]
  have b9 := c_x9r hs N C q (T ++ [60]) x (by simp; omega)
  have b10 := c_x9t hs N C q hl hn (T ++ [60] ++ [10]) x (by simp; omega)
  have a2 : D_X2_tells N (mh_w h (cz F0 (psC C T))) p x 79 = (V_Open_isParted N (mh_w h (cz F0 (psC C (T ++ [21] ++ [13])))) p).bind fun q3 => if q3.1 = 0 then ((V_Open_runs N q3.2 p (1 : Int32) 79).bind fun q4 => some (pV (Z (223 + 215 * i)) (Z (224 + 215 * i)) x + q4.1, q4.2)) else (some ((0 : Int32), q3.2)) := by
    unfold D_X2_tells
    rw [ko_79 hs]
    simp only [lit, c_add hs N _ C T 21 (by omega), some_bind, kW_s _ q, c_x9t hs N C q hl hn (T ++ [21]) x (by simp; omega)]
  have bp := c_x9p hs N q hl hn (psC C (T ++ [21] ++ [13]))
  have b2 := c_x2r hs N C q (T ++ [21] ++ [13]) (nI 1) (by simp; omega)
  have b3 := c_x3r hs N C q (T ++ [21] ++ [13]) (nI 1) (by simp; omega)
  unfold V_Way_tells tV tT
  rcases (show Z (220 + 215 * i) = 0 ∨ Z (220 + 215 * i) = 1 ∨ Z (220 + 215 * i) = 2 ∨ Z (220 + 215 * i) = 3 ∨ Z (220 + 215 * i) = 4 ∨ Z (220 + 215 * i) = 5 by omega) with e | e | e | e | e | e
  · simp only [V_of _ q e, e, kc, a9]; simp (decide := true) only [if_true, if_false]
  · simp only [V_of _ q e, e, kc, a2]
    simp (decide := true) only [if_true, if_false]
    have vp : V_Open_isParted N (mh_w h (cz F0 (psC C (T ++ [21] ++ [13])))) p = some (ib (Z (224 + 215 * i) = Z (223 + 215 * i)) inferInstance, mh_w h (cz F0 (psC C (T ++ [21] ++ [13])))) := by
      unfold V_Open_isParted
      simp only [V_of _ q e, kc, bp]
      simp (decide := true) only [if_true, if_false]
    have vr : V_Open_runs N (mh_w h (cz F0 (psC C (T ++ [21] ++ [13])))) p (nI 1) 79 = some (nI 1 + nI (Z (223 + 215 * i)) - nI 1, mh_w h (cz F0 (psC C (T ++ [21] ++ [13] ++ [20, 10])))) := by
      unfold V_Open_runs
      simp only [V_of _ q e, kc]
      simp (decide := true) only [if_true, if_false]
      exact b2
    simp only [vp, vr, some_bind, lit, if_ib', rV, rT]
    by_cases e2 : Z (224 + 215 * i) = Z (223 + 215 * i)
    · rw [if_pos e2, if_pos e2, if_pos e2]
      simp
    · rw [if_neg e2, if_neg e2, if_neg e2]
      simp
  · simp only [V_of _ q e, e, kc, a9]; simp (decide := true) only [if_true, if_false]
  · simp only [V_of _ q e, e, kc, a2]
    simp (decide := true) only [if_true, if_false]
    have vp : V_Open_isParted N (mh_w h (cz F0 (psC C (T ++ [21] ++ [13])))) p = some (ib (Z (224 + 215 * i) = Z (223 + 215 * i)) inferInstance, mh_w h (cz F0 (psC C (T ++ [21] ++ [13])))) := by
      unfold V_Open_isParted
      simp only [V_of _ q e, kc, bp]
      simp (decide := true) only [if_true, if_false]
    have vr : V_Open_runs N (mh_w h (cz F0 (psC C (T ++ [21] ++ [13])))) p (nI 1) 79 = some (nI 1 + nI (Z (224 + 215 * i)) + nI (Z (223 + 215 * i)) - nI 1, mh_w h (cz F0 (psC C (T ++ [21] ++ [13] ++ [40, 20, 10])))) := by
      unfold V_Open_runs
      simp only [V_of _ q e, kc]
      simp (decide := true) only [if_true, if_false]
      exact b3
    simp only [vp, vr, some_bind, lit, if_ib', rV, rT]
    by_cases e2 : Z (224 + 215 * i) = Z (223 + 215 * i)
    · rw [if_pos e2, if_pos e2, if_pos e2]
      simp
    · rw [if_neg e2, if_neg e2, if_neg e2]
      simp
  · simp only [V_of _ q e, e, kc, a9]; simp (decide := true) only [if_true, if_false]
  · simp only [V_of _ q e, e, kc, a0]
    simp (decide := true) only [if_true, if_false]
    unfold V_Blind_runs
    simp only [V_of _ q e, e, kc]
    simp (decide := true) only [if_true, if_false, b9, some_bind, kW_s _ q, b10, rV, rT]
    simp
theorem m_pr (hs : Sh h) {N : Nat} (F : F2) {k l n : Nat} (hk : k ≤ 5) (f1 : F 86 23 = nI k) (f2 : F 86 24 = nI l) (f3 : F 86 25 = nI n) (T : List Nat) (x : Int32) (ht : T.length < 30) : D_X12_plainRuns N (mh_w h (gz (psG F T) Z)) 86 x = some (x + nI l, mh_w h (gz (psG F (T ++ [10])) Z)) := by
  unfold D_X12_plainRuns
  rw [ko_86 hs]
  simp only [lit, m_beg hs N F T 10 ht, some_bind, gi_86 hs, psG_k F _ (show 24 ≠ 22 by decide), f2]
theorem m_or (hs : Sh h) {N : Nat} (F : F2) {k l n : Nat} (hk : k ≤ 5) (f1 : F 86 23 = nI k) (f2 : F 86 24 = nI l) (f3 : F 86 25 = nI n) (T : List Nat) (x : Int32) (ht : T.length + 1 < 30) : D_X12_openRuns N (mh_w h (gz (psG F T) Z)) 86 x = some (x + nI l - nI 1, mh_w h (gz (psG F (T ++ [20, 10])) Z)) := by
  have e : T ++ [20, 10] = (T ++ [20]) ++ [10] := by simp
  unfold D_X12_openRuns
  rw [ko_86 hs, e]
  simp only [lit, m_beg hs N F T 20 (by omega), some_bind, ko_86 hs, m_pr hs F hk f1 f2 f3 (T ++ [20]) x (by simp; omega)]
theorem m_runs (hs : Sh h) {N : Nat} (F : F2) {k l n : Nat} (hk : k ≤ 5) (f1 : F 86 23 = nI k) (f2 : F 86 24 = nI l) (f3 : F 86 25 = nI n) (T : List Nat) (x : Int32) (ht : T.length + 2 < 30) : D_X12_runs N (mh_w h (gz (psG F T) Z)) 86 x = some (rV k l n x, mh_w h (gz (psG F (T ++ rT k)) Z)) := by
  have e : T ++ [40, 20, 10] = (T ++ [40]) ++ [20, 10] := by simp
  unfold D_X12_runs rV rT
  simp only [lit, gi_86 hs, some_bind, psG_k F _ (show 23 ≠ 22 by decide), psG_k F _ (show 25 ≠ 22 by decide), f1, f3, ko_86 hs, m_beg hs N F T 40 (by omega), m_or hs F hk f1 f2 f3 (T ++ [40]) (x + nI n) (by simp; omega), m_or hs F hk f1 f2 f3 T x (by omega), m_pr hs F hk f1 f2 f3 T x (by omega)]
  by_cases q3 : k = 3
  · rw [if_pos (by rw [q3]), if_pos q3, if_pos q3, e]
  · rw [if_neg (fun q => q3 ((nI_eq (by omega) (by omega)).mp q)), if_neg q3, if_neg q3]
    by_cases q1 : k = 1
    · rw [if_pos (by rw [q1]), if_pos q1, if_pos q1]
    · rw [if_neg (fun q => q1 ((nI_eq (by omega) (by omega)).mp q)), if_neg q1, if_neg q1]
theorem m_ph (hs : Sh h) {N : Nat} (F : F2) {k l n : Nat} (hk : k ≤ 5) (f1 : F 86 23 = nI k) (f2 : F 86 24 = nI l) (f3 : F 86 25 = nI n) (T : List Nat) (x : Int32) (ht : T.length + 3 < 30) : D_X12_plainHolds N (mh_w h (gz (psG F T) Z)) 86 x = some (rV k l n x * nI 2, mh_w h (gz (psG F (T ++ 11 :: rT k)) Z)) := by
  have e : T ++ 11 :: rT k = (T ++ [11]) ++ rT k := by simp
  unfold D_X12_plainHolds
  rw [ko_86 hs, e]
  simp only [lit, m_beg hs N F T 11 (by omega), some_bind, ko_86 hs, m_runs hs F hk f1 f2 f3 (T ++ [11]) x (by simp; omega)]
theorem m_holds (hs : Sh h) {N : Nat} (hN : 10000 ≤ N) (F : F2) {k l n : Nat} (hk : k ≤ 5) (f1 : F 86 23 = nI k) (f2 : F 86 24 = nI l) (f3 : F 86 25 = nI n) (T : List Nat) (x : Int32) (ht : T.length + 4 < 30) : D_X12_holds N (mh_w h (gz (psG F T) Z)) 86 x = some (hV k l n x, mh_w h (gz (psG F (T ++ hT k)) Z)) := by
  have e1 : T ++ 30 :: 11 :: rT k = (T ++ [30]) ++ 11 :: rT k := by simp
  have e2 : T ++ 50 :: 11 :: rT k = (T ++ [50]) ++ 11 :: rT k := by simp
  unfold D_X12_holds hV hT
  simp only [lit, gi_86 hs, some_bind, psG_k F _ (show 23 ≠ 22 by decide), psG_k F _ (show 25 ≠ 22 by decide), f1, f3, ko_86 hs, m_isUnder hN _ hk (show 2 ≤ 5 by decide), m_beg hs N F T 30 (by omega), m_beg hs N F T 50 (by omega), m_ph hs F hk f1 f2 f3 (T ++ [30]) x (by simp; omega), m_ph hs F hk f1 f2 f3 (T ++ [50]) x (by simp; omega), m_ph hs F hk f1 f2 f3 T x (by omega), if_ib']
  by_cases q3 : k = 2 ∨ k = 5
  · rw [if_pos (und_T (by omega)), if_pos q3, if_pos q3, e1]
  · rw [if_neg (und_F (by omega)), if_neg q3, if_neg q3]
    by_cases q1 : k = 4
    · rw [if_pos (by rw [q1]), if_pos q1, if_pos q1, e2]
    · rw [if_neg (fun q => q1 ((nI_eq (by omega) (by omega)).mp q)), if_neg q1, if_neg q1]
theorem m_ps (hs : Sh h) {N : Nat} (hN : 10000 ≤ N) (F : F2) {k l n : Nat} (hk : k ≤ 5) (f1 : F 86 23 = nI k) (f2 : F 86 24 = nI l) (f3 : F 86 25 = nI n) (T : List Nat) (x : Int32) (ht : T.length + 5 < 30) : D_X12_plainSpills N (mh_w h (gz (psG F T) Z)) 86 x = some (hV k l n x - nI n, mh_w h (gz (psG F (T ++ 12 :: hT k)) Z)) := by
  have e : T ++ 12 :: hT k = (T ++ [12]) ++ hT k := by simp
  unfold D_X12_plainSpills
  rw [ko_86 hs, e]
  simp only [lit, m_beg hs N F T 12 (by omega), some_bind, ko_86 hs, m_holds hs hN F hk f1 f2 f3 (T ++ [12]) x (by simp; omega), gi_86 hs, psG_k F _ (show 25 ≠ 22 by decide), f3]
theorem m_spills (hs : Sh h) {N : Nat} (hN : 10000 ≤ N) (F : F2) {k l n : Nat} (hk : k ≤ 5) (f1 : F 86 23 = nI k) (f2 : F 86 24 = nI l) (f3 : F 86 25 = nI n) (T : List Nat) (x : Int32) (ht : T.length + 6 < 30) : D_X12_spills_ N (mh_w h (gz (psG F T) Z)) 86 x = some (spV k l n x, mh_w h (gz (psG F (T ++ sT k)) Z)) := by
  have e1 : T ++ 41 :: 12 :: hT k = (T ++ [41]) ++ 12 :: hT k := by simp
  have e2 : T ++ 51 :: 12 :: hT k = (T ++ [51]) ++ 12 :: hT k := by simp
  unfold D_X12_spills_ spV sT
  simp only [lit, gi_86 hs, some_bind, psG_k F _ (show 23 ≠ 22 by decide), f1, ko_86 hs, m_beg hs N F T 41 (by omega), m_beg hs N F T 51 (by omega), m_ps hs hN F hk f1 f2 f3 (T ++ [41]) x (by simp; omega), m_ps hs hN F hk f1 f2 f3 (T ++ [51]) x (by simp; omega), m_ps hs hN F hk f1 f2 f3 T x (by omega)]
  by_cases q3 : k = 3
  · rw [if_pos (by rw [q3]), if_pos q3, if_pos q3, e1]
  · rw [if_neg (fun q => q3 ((nI_eq (by omega) (by omega)).mp q)), if_neg q3, if_neg q3]
    by_cases q1 : k = 4
    · rw [if_pos (by rw [q1]), if_pos q1, if_pos q1, e2]
    · rw [if_neg (fun q => q1 ((nI_eq (by omega) (by omega)).mp q)), if_neg q1, if_neg q1]
theorem psG_up (F : F2) (T : List Nat) (v : Int32) : up2 (psG F T) 86 26 v = psG (up2 F 86 26 v) T := by
  funext a j
  unfold up2 psG
  try dsimp only
  by_cases q : a = 86 ∧ j = 26
  · rw [if_pos q, if_neg (by omega), if_neg (by omega), if_pos q]
  · rw [if_neg q, if_neg q]
theorem pB_83 (hs : Sh h) (G : F2) (Z : Z1) (j : Nat) {x : Nat} (hx : x ≤ 1) : pB (mh_w h (gz G Z)) 12 86 j (nI x) = some (mh_w h (gz (up2 G 86 j (nI x)) Z)) := by
  rw [pB_s hs _ (by decide) (by decide) (by rcases (show x = 0 ∨ x = 1 by omega) with rfl | rfl; exact Or.inl rfl; exact Or.inr rfl), gz_upo G Z (by decide)]
theorem m_pt (hs : Sh h) (N : Nat) (F : F2) {l n : Nat} (hl : l ≤ 20) (hn : n ≤ 99) (f2 : F 86 24 = nI l) (f3 : F 86 25 = nI n) (T : List Nat) (x : Int32) (ht : T.length < 30) : D_X12_plainTells N (mh_w h (gz (psG F T) Z)) 86 x = some (pV l n x, mh_w h (gz (psG (up2 F 86 26 (nI (if n = l then 1 else 0))) (T ++ [13])) Z)) := by
  unfold D_X12_plainTells D_X12_plainTells_26
  rw [ko_86 hs]
  simp only [lit, m_beg hs N F T 13 ht, some_bind, gi_86 hs, psG_k F _ (show 24 ≠ 22 by decide), psG_k F _ (show 25 ≠ 22 by decide), f2, f3, pB_83 hs _ _ _ (show 1 ≤ 1 by decide), pB_83 hs _ _ _ (show 0 ≤ 1 by decide), psG_up]
  unfold pV
  by_cases e : n = l
  · rw [if_pos e, if_pos e, e, Int32.sub_self]; rfl
  · have e0 : ¬ nI n - nI l = nI 0 := fun z => e ((nI_eq (by omega) (by omega)).mp (Int32.sub_eq_iff_eq_add.mp z |>.trans (Int32.zero_add _)))
    rw [if_neg e, if_neg e, if_neg e0]
    exact (if_neg e0).trans (if_neg e0)
theorem m_tells (hs : Sh h) {N : Nat} (hN : 10000 ≤ N) (F : F2) {k l n : Nat} (hk : k ≤ 5) (hl : l ≤ 20) (hn : n ≤ 99) (f1 : F 86 23 = nI k) (f2 : F 86 24 = nI l) (f3 : F 86 25 = nI n) (T : List Nat) (x : Int32) (ht : T.length + 6 < 30) : D_X12_tells N (mh_w h (gz (psG F T) Z)) 86 x = some (tV k l n x, mh_w h (gz (psG (up2 F 86 26 (nI (if n = l then 1 else 0))) (T ++ tT k l n)) Z)) := by
  have g1 : up2 F 86 26 (nI (if n = l then 1 else 0)) 86 23 = nI k := by rw [up2_j (by decide)]; exact f1
  have g2 : up2 F 86 26 (nI (if n = l then 1 else 0)) 86 24 = nI l := by rw [up2_j (by decide)]; exact f2
  have g3 : up2 F 86 26 (nI (if n = l then 1 else 0)) 86 25 = nI n := by rw [up2_j (by decide)]; exact f3
  have r1 := m_runs (Z := Z) (N := N) hs (up2 F 86 26 (nI (if n = l then 1 else 0))) hk g1 g2 g3 (T ++ [21] ++ [13]) (nI 1) (by simp; omega)
  have r2 := m_runs (Z := Z) (N := N) hs F hk f1 f2 f3 (T ++ [60]) x (by simp; omega)
  have hr := rT_le k
  have p1 := m_pt (Z := Z) hs N F hl hn f2 f3 T x (by omega)
  have p2 := m_pt (Z := Z) hs N F hl hn f2 f3 (T ++ [21]) x (by simp; omega)
  have p3 := m_pt (Z := Z) hs N F hl hn f2 f3 (T ++ [60] ++ rT k) x (by simp; omega)
  unfold D_X12_tells tV tT
  simp only [lit, gi_86 hs, some_bind, psG_k F _ (show 23 ≠ 22 by decide), f1, ko_86 hs, m_isUnder hN _ hk (show 1 ≤ 5 by decide), m_beg hs N F T 21 (by omega), m_beg hs N F T 60 (by omega), p1, p2, r2, p3, if_ib', psG_k _ _ (show 26 ≠ 22 by decide), up2_s]
  by_cases q1 : k = 1 ∨ k = 3
  · rw [if_pos (und_T (by omega)), if_pos q1, if_pos q1]
    by_cases e : n = l
    · simp only [e, if_true, ↓reduceIte]
      rw [if_neg (by decide)]
      simp
    · simp only [e, if_false, ↓reduceIte] at r1 ⊢
      rw [r1]
      simp
  · rw [if_neg (und_F (by omega)), if_neg q1, if_neg q1]
    by_cases q5 : k = 5
    · rw [if_pos (by rw [q5]), if_pos q5, if_pos q5]
      simp
    · rw [if_neg (fun q => q5 ((nI_eq (by omega) (by omega)).mp q)), if_neg q5, if_neg q5]
end OPSE
