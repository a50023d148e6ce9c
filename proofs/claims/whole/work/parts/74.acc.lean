/-! every fixed cell, by name: printed by acc.py -/
section ACC
variable {h : mh_H}
theorem gr_0_0 (hs : Sh h) (F : F2) : gR (mh_w h F) 11 0 0 = some 1 := gR_s hs F (by decide) (by decide) (by decide)
theorem gr_0_1 (hs : Sh h) (F : F2) : gR (mh_w h F) 11 0 1 = some 32 := gR_s hs F (by decide) (by decide) (by decide)
theorem gr_0_2 (hs : Sh h) (F : F2) : gR (mh_w h F) 11 0 2 = some 63 := gR_s hs F (by decide) (by decide) (by decide)
theorem gr_0_3 (hs : Sh h) (F : F2) : gR (mh_w h F) 11 0 3 = some 73 := gR_s hs F (by decide) (by decide) (by decide)
theorem gr_0_4 (hs : Sh h) (F : F2) : gR (mh_w h F) 11 0 4 = some 79 := gR_s hs F (by decide) (by decide) (by decide)
theorem gr_0_5 (hs : Sh h) (F : F2) : gR (mh_w h F) 11 0 5 = some 81 := gR_s hs F (by decide) (by decide) (by decide)
theorem gr_0_6 (hs : Sh h) (F : F2) : gR (mh_w h F) 11 0 6 = some 82 := gR_s hs F (by decide) (by decide) (by decide)
theorem gr_0_7 (hs : Sh h) (F : F2) : gR (mh_w h F) 11 0 7 = some 83 := gR_s hs F (by decide) (by decide) (by decide)
theorem gr_0_8 (hs : Sh h) (F : F2) : gR (mh_w h F) 11 0 8 = some 84 := gR_s hs F (by decide) (by decide) (by decide)
theorem gr_0_9 (hs : Sh h) (F : F2) : gR (mh_w h F) 11 0 9 = some 85 := gR_s hs F (by decide) (by decide) (by decide)
theorem gr_1_3 (hs : Sh h) (F : F2) : gR (mh_w h F) 10 1 3 = some 2 := gR_s hs F (by decide) (by decide) (by decide)
theorem gr_1_4 (hs : Sh h) (F : F2) : gR (mh_w h F) 10 1 4 = some 3 := gR_s hs F (by decide) (by decide) (by decide)
theorem gr_1_5 (hs : Sh h) (F : F2) : gR (mh_w h F) 10 1 5 = some 4 := gR_s hs F (by decide) (by decide) (by decide)
theorem gr_1_6 (hs : Sh h) (F : F2) : gR (mh_w h F) 10 1 6 = some 5 := gR_s hs F (by decide) (by decide) (by decide)
theorem gr_1_7 (hs : Sh h) (F : F2) : gR (mh_w h F) 10 1 7 = some 6 := gR_s hs F (by decide) (by decide) (by decide)
theorem gr_1_8 (hs : Sh h) (F : F2) : gR (mh_w h F) 10 1 8 = some 16 := gR_s hs F (by decide) (by decide) (by decide)
theorem gr_1_9 (hs : Sh h) (F : F2) : gR (mh_w h F) 10 1 9 = some 23 := gR_s hs F (by decide) (by decide) (by decide)
theorem gr_1_10 (hs : Sh h) (F : F2) : gR (mh_w h F) 10 1 10 = some 25 := gR_s hs F (by decide) (by decide) (by decide)
theorem gr_1_11 (hs : Sh h) (F : F2) : gR (mh_w h F) 10 1 11 = some 27 := gR_s hs F (by decide) (by decide) (by decide)
theorem gr_1_12 (hs : Sh h) (F : F2) : gR (mh_w h F) 10 1 12 = some 29 := gR_s hs F (by decide) (by decide) (by decide)
theorem gr_6_3 (hs : Sh h) (F : F2) : gR (mh_w h F) 8 6 3 = some 7 := gR_s hs F (by decide) (by decide) (by decide)
theorem gr_6_4 (hs : Sh h) (F : F2) : gR (mh_w h F) 8 6 4 = some 8 := gR_s hs F (by decide) (by decide) (by decide)
theorem gr_6_5 (hs : Sh h) (F : F2) : gR (mh_w h F) 8 6 5 = some 9 := gR_s hs F (by decide) (by decide) (by decide)
theorem gr_6_6 (hs : Sh h) (F : F2) : gR (mh_w h F) 8 6 6 = some 10 := gR_s hs F (by decide) (by decide) (by decide)
theorem gr_6_7 (hs : Sh h) (F : F2) : gR (mh_w h F) 8 6 7 = some 11 := gR_s hs F (by decide) (by decide) (by decide)
theorem gr_6_8 (hs : Sh h) (F : F2) : gR (mh_w h F) 8 6 8 = some 12 := gR_s hs F (by decide) (by decide) (by decide)
theorem gr_6_9 (hs : Sh h) (F : F2) : gR (mh_w h F) 8 6 9 = some 13 := gR_s hs F (by decide) (by decide) (by decide)
theorem gr_6_10 (hs : Sh h) (F : F2) : gR (mh_w h F) 8 6 10 = some 14 := gR_s hs F (by decide) (by decide) (by decide)
theorem gr_6_11 (hs : Sh h) (F : F2) : gR (mh_w h F) 8 6 11 = some 15 := gR_s hs F (by decide) (by decide) (by decide)
theorem gr_16_2 (hs : Sh h) (F : F2) : gR (mh_w h F) 1 16 2 = some 17 := gR_s hs F (by decide) (by decide) (by decide)
theorem gr_16_3 (hs : Sh h) (F : F2) : gR (mh_w h F) 1 16 3 = some 18 := gR_s hs F (by decide) (by decide) (by decide)
theorem gr_16_4 (hs : Sh h) (F : F2) : gR (mh_w h F) 1 16 4 = some 19 := gR_s hs F (by decide) (by decide) (by decide)
theorem gr_16_5 (hs : Sh h) (F : F2) : gR (mh_w h F) 1 16 5 = some 20 := gR_s hs F (by decide) (by decide) (by decide)
theorem gr_16_6 (hs : Sh h) (F : F2) : gR (mh_w h F) 1 16 6 = some 21 := gR_s hs F (by decide) (by decide) (by decide)
theorem gr_16_7 (hs : Sh h) (F : F2) : gR (mh_w h F) 1 16 7 = some 22 := gR_s hs F (by decide) (by decide) (by decide)
theorem gr_23_0 (hs : Sh h) (F : F2) : gR (mh_w h F) 6 23 0 = some 24 := gR_s hs F (by decide) (by decide) (by decide)
theorem gr_25_0 (hs : Sh h) (F : F2) : gR (mh_w h F) 6 25 0 = some 26 := gR_s hs F (by decide) (by decide) (by decide)
theorem gr_27_0 (hs : Sh h) (F : F2) : gR (mh_w h F) 6 27 0 = some 28 := gR_s hs F (by decide) (by decide) (by decide)
theorem gr_29_0 (hs : Sh h) (F : F2) : gR (mh_w h F) 6 29 0 = some 30 := gR_s hs F (by decide) (by decide) (by decide)
theorem gr_32_3 (hs : Sh h) (F : F2) : gR (mh_w h F) 10 32 3 = some 33 := gR_s hs F (by decide) (by decide) (by decide)
theorem gr_32_4 (hs : Sh h) (F : F2) : gR (mh_w h F) 10 32 4 = some 34 := gR_s hs F (by decide) (by decide) (by decide)
theorem gr_32_5 (hs : Sh h) (F : F2) : gR (mh_w h F) 10 32 5 = some 35 := gR_s hs F (by decide) (by decide) (by decide)
theorem gr_32_6 (hs : Sh h) (F : F2) : gR (mh_w h F) 10 32 6 = some 36 := gR_s hs F (by decide) (by decide) (by decide)
theorem gr_32_7 (hs : Sh h) (F : F2) : gR (mh_w h F) 10 32 7 = some 37 := gR_s hs F (by decide) (by decide) (by decide)
theorem gr_32_8 (hs : Sh h) (F : F2) : gR (mh_w h F) 10 32 8 = some 47 := gR_s hs F (by decide) (by decide) (by decide)
theorem gr_32_9 (hs : Sh h) (F : F2) : gR (mh_w h F) 10 32 9 = some 54 := gR_s hs F (by decide) (by decide) (by decide)
theorem gr_32_10 (hs : Sh h) (F : F2) : gR (mh_w h F) 10 32 10 = some 56 := gR_s hs F (by decide) (by decide) (by decide)
theorem gr_32_11 (hs : Sh h) (F : F2) : gR (mh_w h F) 10 32 11 = some 58 := gR_s hs F (by decide) (by decide) (by decide)
theorem gr_32_12 (hs : Sh h) (F : F2) : gR (mh_w h F) 10 32 12 = some 60 := gR_s hs F (by decide) (by decide) (by decide)
theorem gr_37_3 (hs : Sh h) (F : F2) : gR (mh_w h F) 8 37 3 = some 38 := gR_s hs F (by decide) (by decide) (by decide)
theorem gr_37_4 (hs : Sh h) (F : F2) : gR (mh_w h F) 8 37 4 = some 39 := gR_s hs F (by decide) (by decide) (by decide)
theorem gr_37_5 (hs : Sh h) (F : F2) : gR (mh_w h F) 8 37 5 = some 40 := gR_s hs F (by decide) (by decide) (by decide)
theorem gr_37_6 (hs : Sh h) (F : F2) : gR (mh_w h F) 8 37 6 = some 41 := gR_s hs F (by decide) (by decide) (by decide)
theorem gr_37_7 (hs : Sh h) (F : F2) : gR (mh_w h F) 8 37 7 = some 42 := gR_s hs F (by decide) (by decide) (by decide)
theorem gr_37_8 (hs : Sh h) (F : F2) : gR (mh_w h F) 8 37 8 = some 43 := gR_s hs F (by decide) (by decide) (by decide)
theorem gr_37_9 (hs : Sh h) (F : F2) : gR (mh_w h F) 8 37 9 = some 44 := gR_s hs F (by decide) (by decide) (by decide)
theorem gr_37_10 (hs : Sh h) (F : F2) : gR (mh_w h F) 8 37 10 = some 45 := gR_s hs F (by decide) (by decide) (by decide)
theorem gr_37_11 (hs : Sh h) (F : F2) : gR (mh_w h F) 8 37 11 = some 46 := gR_s hs F (by decide) (by decide) (by decide)
theorem gr_47_2 (hs : Sh h) (F : F2) : gR (mh_w h F) 1 47 2 = some 48 := gR_s hs F (by decide) (by decide) (by decide)
theorem gr_47_3 (hs : Sh h) (F : F2) : gR (mh_w h F) 1 47 3 = some 49 := gR_s hs F (by decide) (by decide) (by decide)
theorem gr_47_4 (hs : Sh h) (F : F2) : gR (mh_w h F) 1 47 4 = some 50 := gR_s hs F (by decide) (by decide) (by decide)
theorem gr_47_5 (hs : Sh h) (F : F2) : gR (mh_w h F) 1 47 5 = some 51 := gR_s hs F (by decide) (by decide) (by decide)
theorem gr_47_6 (hs : Sh h) (F : F2) : gR (mh_w h F) 1 47 6 = some 52 := gR_s hs F (by decide) (by decide) (by decide)
theorem gr_47_7 (hs : Sh h) (F : F2) : gR (mh_w h F) 1 47 7 = some 53 := gR_s hs F (by decide) (by decide) (by decide)
theorem gr_54_0 (hs : Sh h) (F : F2) : gR (mh_w h F) 6 54 0 = some 55 := gR_s hs F (by decide) (by decide) (by decide)
theorem gr_56_0 (hs : Sh h) (F : F2) : gR (mh_w h F) 6 56 0 = some 57 := gR_s hs F (by decide) (by decide) (by decide)
theorem gr_58_0 (hs : Sh h) (F : F2) : gR (mh_w h F) 6 58 0 = some 59 := gR_s hs F (by decide) (by decide) (by decide)
theorem gr_60_0 (hs : Sh h) (F : F2) : gR (mh_w h F) 6 60 0 = some 61 := gR_s hs F (by decide) (by decide) (by decide)
theorem gr_63_3 (hs : Sh h) (F : F2) : gR (mh_w h F) 8 63 3 = some 64 := gR_s hs F (by decide) (by decide) (by decide)
theorem gr_63_4 (hs : Sh h) (F : F2) : gR (mh_w h F) 8 63 4 = some 65 := gR_s hs F (by decide) (by decide) (by decide)
theorem gr_63_5 (hs : Sh h) (F : F2) : gR (mh_w h F) 8 63 5 = some 66 := gR_s hs F (by decide) (by decide) (by decide)
theorem gr_63_6 (hs : Sh h) (F : F2) : gR (mh_w h F) 8 63 6 = some 67 := gR_s hs F (by decide) (by decide) (by decide)
theorem gr_63_7 (hs : Sh h) (F : F2) : gR (mh_w h F) 8 63 7 = some 68 := gR_s hs F (by decide) (by decide) (by decide)
theorem gr_63_8 (hs : Sh h) (F : F2) : gR (mh_w h F) 8 63 8 = some 69 := gR_s hs F (by decide) (by decide) (by decide)
theorem gr_63_9 (hs : Sh h) (F : F2) : gR (mh_w h F) 8 63 9 = some 70 := gR_s hs F (by decide) (by decide) (by decide)
theorem gr_63_10 (hs : Sh h) (F : F2) : gR (mh_w h F) 8 63 10 = some 71 := gR_s hs F (by decide) (by decide) (by decide)
theorem gr_63_11 (hs : Sh h) (F : F2) : gR (mh_w h F) 8 63 11 = some 72 := gR_s hs F (by decide) (by decide) (by decide)
theorem gr_73_0 (hs : Sh h) (F : F2) : gR (mh_w h F) 5 73 0 = some 74 := gR_s hs F (by decide) (by decide) (by decide)
theorem gr_73_1 (hs : Sh h) (F : F2) : gR (mh_w h F) 5 73 1 = some 75 := gR_s hs F (by decide) (by decide) (by decide)
theorem gr_73_2 (hs : Sh h) (F : F2) : gR (mh_w h F) 5 73 2 = some 77 := gR_s hs F (by decide) (by decide) (by decide)
theorem gr_75_0 (hs : Sh h) (F : F2) : gR (mh_w h F) 6 75 0 = some 76 := gR_s hs F (by decide) (by decide) (by decide)
theorem gr_79_0 (hs : Sh h) (F : F2) : gR (mh_w h F) 6 79 0 = some 80 := gR_s hs F (by decide) (by decide) (by decide)
theorem gr_86_0 (hs : Sh h) (F : F2) : gR (mh_w h F) 12 86 0 = some 87 := gR_s hs F (by decide) (by decide) (by decide)
theorem gr_86_1 (hs : Sh h) (F : F2) : gR (mh_w h F) 12 86 1 = some 88 := gR_s hs F (by decide) (by decide) (by decide)
theorem gr_86_2 (hs : Sh h) (F : F2) : gR (mh_w h F) 12 86 2 = some 89 := gR_s hs F (by decide) (by decide) (by decide)
theorem gr_86_4 (hs : Sh h) (F : F2) : gR (mh_w h F) 12 86 4 = some 90 := gR_s hs F (by decide) (by decide) (by decide)
theorem gr_86_5 (hs : Sh h) (F : F2) : gR (mh_w h F) 12 86 5 = some 91 := gR_s hs F (by decide) (by decide) (by decide)
theorem gr_86_6 (hs : Sh h) (F : F2) : gR (mh_w h F) 12 86 6 = some 92 := gR_s hs F (by decide) (by decide) (by decide)
theorem gr_86_7 (hs : Sh h) (F : F2) : gR (mh_w h F) 12 86 7 = some 93 := gR_s hs F (by decide) (by decide) (by decide)
theorem gr_86_8 (hs : Sh h) (F : F2) : gR (mh_w h F) 12 86 8 = some 94 := gR_s hs F (by decide) (by decide) (by decide)
theorem gr_86_15 (hs : Sh h) (F : F2) : gR (mh_w h F) 12 86 15 = some 95 := gR_s hs F (by decide) (by decide) (by decide)
theorem gr_86_16 (hs : Sh h) (F : F2) : gR (mh_w h F) 12 86 16 = some 96 := gR_s hs F (by decide) (by decide) (by decide)
theorem gr_86_17 (hs : Sh h) (F : F2) : gR (mh_w h F) 12 86 17 = some 97 := gR_s hs F (by decide) (by decide) (by decide)
theorem gr_86_18 (hs : Sh h) (F : F2) : gR (mh_w h F) 12 86 18 = some 98 := gR_s hs F (by decide) (by decide) (by decide)
theorem gr_86_19 (hs : Sh h) (F : F2) : gR (mh_w h F) 12 86 19 = some 99 := gR_s hs F (by decide) (by decide) (by decide)
theorem gr_86_20 (hs : Sh h) (F : F2) : gR (mh_w h F) 12 86 20 = some 100 := gR_s hs F (by decide) (by decide) (by decide)
theorem gr_86_21 (hs : Sh h) (F : F2) : gR (mh_w h F) 12 86 21 = some 101 := gR_s hs F (by decide) (by decide) (by decide)
theorem gr_86_27 (hs : Sh h) (F : F2) : gR (mh_w h F) 12 86 27 = some 102 := gR_s hs F (by decide) (by decide) (by decide)
theorem gr_86_28 (hs : Sh h) (F : F2) : gR (mh_w h F) 12 86 28 = some 103 := gR_s hs F (by decide) (by decide) (by decide)
theorem gr_86_29 (hs : Sh h) (F : F2) : gR (mh_w h F) 12 86 29 = some 104 := gR_s hs F (by decide) (by decide) (by decide)
theorem ko_0 (hs : Sh h) {α : Type} (F : F2) (f : Option α) : kO (mh_w h F) 11 0 f = f := kO_s hs F (by decide) (by decide)
theorem gi_0 (hs : Sh h) (G : F2) (C : C2) (j : Nat) : gI (mh_w h (cz G C)) 11 0 j = some (nI (C 0 j)) := cz_gI hs (by decide) (by decide) (by decide)
theorem pi_0 (hs : Sh h) (G : F2) (C : C2) (j x : Nat) : pI (mh_w h (cz G C)) 11 0 j (nI x) = some (mh_w h (cz G (upC C 0 j x))) := cz_pI hs (by decide) (by decide) (by decide)
theorem ko_1 (hs : Sh h) {α : Type} (F : F2) (f : Option α) : kO (mh_w h F) 10 1 f = f := kO_s hs F (by decide) (by decide)
theorem gi_1 (hs : Sh h) (G : F2) (C : C2) (j : Nat) : gI (mh_w h (cz G C)) 10 1 j = some (nI (C 1 j)) := cz_gI hs (by decide) (by decide) (by decide)
theorem pi_1 (hs : Sh h) (G : F2) (C : C2) (j x : Nat) : pI (mh_w h (cz G C)) 10 1 j (nI x) = some (mh_w h (cz G (upC C 1 j x))) := cz_pI hs (by decide) (by decide) (by decide)
theorem al_2 (hs : Sh h) (F : F2) : aL (mh_w h F) 2 = some (nI 16) := aL_s hs F (by decide) (by decide)
theorem ai_2 (hs : Sh h) (G : F2) (C : C2) {n : Nat} (hn : n < 16) : aI (mh_w h (cz G C)) 2 (nI n) = some (nI (C 2 n)) := cz_aI hs (by decide) (by decide) (by decide) hn
theorem ui_2 (hs : Sh h) (G : F2) (C : C2) {n x : Nat} (hn : n < 16) : uI (mh_w h (cz G C)) 2 (nI n) (nI x) = some (mh_w h (cz G (upC C 2 n x))) := cz_uI hs (by decide) (by decide) (by decide) hn
theorem al_3 (hs : Sh h) (F : F2) : aL (mh_w h F) 3 = some (nI 16) := aL_s hs F (by decide) (by decide)
theorem ai_3 (hs : Sh h) (G : F2) (C : C2) {n : Nat} (hn : n < 16) : aI (mh_w h (cz G C)) 3 (nI n) = some (nI (C 3 n)) := cz_aI hs (by decide) (by decide) (by decide) hn
theorem ui_3 (hs : Sh h) (G : F2) (C : C2) {n x : Nat} (hn : n < 16) : uI (mh_w h (cz G C)) 3 (nI n) (nI x) = some (mh_w h (cz G (upC C 3 n x))) := cz_uI hs (by decide) (by decide) (by decide) hn
theorem al_4 (hs : Sh h) (F : F2) : aL (mh_w h F) 4 = some (nI 16) := aL_s hs F (by decide) (by decide)
theorem ai_4 (hs : Sh h) (G : F2) (C : C2) {n : Nat} (hn : n < 16) : aI (mh_w h (cz G C)) 4 (nI n) = some (nI (C 4 n)) := cz_aI hs (by decide) (by decide) (by decide) hn
theorem ui_4 (hs : Sh h) (G : F2) (C : C2) {n x : Nat} (hn : n < 16) : uI (mh_w h (cz G C)) 4 (nI n) (nI x) = some (mh_w h (cz G (upC C 4 n x))) := cz_uI hs (by decide) (by decide) (by decide) hn
theorem ko_6 (hs : Sh h) {α : Type} (F : F2) (f : Option α) : kO (mh_w h F) 8 6 f = f := kO_s hs F (by decide) (by decide)
theorem gi_6 (hs : Sh h) (G : F2) (C : C2) (j : Nat) : gI (mh_w h (cz G C)) 8 6 j = some (nI (C 6 j)) := cz_gI hs (by decide) (by decide) (by decide)
theorem pi_6 (hs : Sh h) (G : F2) (C : C2) (j x : Nat) : pI (mh_w h (cz G C)) 8 6 j (nI x) = some (mh_w h (cz G (upC C 6 j x))) := cz_pI hs (by decide) (by decide) (by decide)
theorem al_7 (hs : Sh h) (F : F2) : aL (mh_w h F) 7 = some (nI 4) := aL_s hs F (by decide) (by decide)
theorem ai_7 (hs : Sh h) (G : F2) (C : C2) {n : Nat} (hn : n < 4) : aI (mh_w h (cz G C)) 7 (nI n) = some (nI (C 7 n)) := cz_aI hs (by decide) (by decide) (by decide) hn
theorem ui_7 (hs : Sh h) (G : F2) (C : C2) {n x : Nat} (hn : n < 4) : uI (mh_w h (cz G C)) 7 (nI n) (nI x) = some (mh_w h (cz G (upC C 7 n x))) := cz_uI hs (by decide) (by decide) (by decide) hn
theorem al_8 (hs : Sh h) (F : F2) : aL (mh_w h F) 8 = some (nI 28) := aL_s hs F (by decide) (by decide)
theorem ai_8 (hs : Sh h) (G : F2) (C : C2) {n : Nat} (hn : n < 28) : aI (mh_w h (cz G C)) 8 (nI n) = some (nI (C 8 n)) := cz_aI hs (by decide) (by decide) (by decide) hn
theorem ui_8 (hs : Sh h) (G : F2) (C : C2) {n x : Nat} (hn : n < 28) : uI (mh_w h (cz G C)) 8 (nI n) (nI x) = some (mh_w h (cz G (upC C 8 n x))) := cz_uI hs (by decide) (by decide) (by decide) hn
theorem al_9 (hs : Sh h) (F : F2) : aL (mh_w h F) 9 = some (nI 80) := aL_s hs F (by decide) (by decide)
theorem ai_9 (hs : Sh h) (G : F2) (C : C2) {n : Nat} (hn : n < 80) : aI (mh_w h (cz G C)) 9 (nI n) = some (nI (C 9 n)) := cz_aI hs (by decide) (by decide) (by decide) hn
theorem ui_9 (hs : Sh h) (G : F2) (C : C2) {n x : Nat} (hn : n < 80) : uI (mh_w h (cz G C)) 9 (nI n) (nI x) = some (mh_w h (cz G (upC C 9 n x))) := cz_uI hs (by decide) (by decide) (by decide) hn
theorem al_10 (hs : Sh h) (F : F2) : aL (mh_w h F) 10 = some (nI 4800) := aL_s hs F (by decide) (by decide)
theorem ai_10 (hs : Sh h) (G : F2) (C : C2) {n : Nat} (hn : n < 4800) : aI (mh_w h (cz G C)) 10 (nI n) = some (nI (C 10 n)) := cz_aI hs (by decide) (by decide) (by decide) hn
theorem ui_10 (hs : Sh h) (G : F2) (C : C2) {n x : Nat} (hn : n < 4800) : uI (mh_w h (cz G C)) 10 (nI n) (nI x) = some (mh_w h (cz G (upC C 10 n x))) := cz_uI hs (by decide) (by decide) (by decide) hn
theorem al_11 (hs : Sh h) (F : F2) : aL (mh_w h F) 11 = some (nI 120) := aL_s hs F (by decide) (by decide)
theorem ai_11 (hs : Sh h) (G : F2) (C : C2) {n : Nat} (hn : n < 120) : aI (mh_w h (cz G C)) 11 (nI n) = some (nI (C 11 n)) := cz_aI hs (by decide) (by decide) (by decide) hn
theorem ui_11 (hs : Sh h) (G : F2) (C : C2) {n x : Nat} (hn : n < 120) : uI (mh_w h (cz G C)) 11 (nI n) (nI x) = some (mh_w h (cz G (upC C 11 n x))) := cz_uI hs (by decide) (by decide) (by decide) hn
theorem al_12 (hs : Sh h) (F : F2) : aL (mh_w h F) 12 = some (nI 16) := aL_s hs F (by decide) (by decide)
theorem ai_12 (hs : Sh h) (G : F2) (C : C2) {n : Nat} (hn : n < 16) : aI (mh_w h (cz G C)) 12 (nI n) = some (nI (C 12 n)) := cz_aI hs (by decide) (by decide) (by decide) hn
theorem ui_12 (hs : Sh h) (G : F2) (C : C2) {n x : Nat} (hn : n < 16) : uI (mh_w h (cz G C)) 12 (nI n) (nI x) = some (mh_w h (cz G (upC C 12 n x))) := cz_uI hs (by decide) (by decide) (by decide) hn
theorem al_13 (hs : Sh h) (F : F2) : aL (mh_w h F) 13 = some (nI 16) := aL_s hs F (by decide) (by decide)
theorem ai_13 (hs : Sh h) (G : F2) (C : C2) {n : Nat} (hn : n < 16) : aI (mh_w h (cz G C)) 13 (nI n) = some (nI (C 13 n)) := cz_aI hs (by decide) (by decide) (by decide) hn
theorem ui_13 (hs : Sh h) (G : F2) (C : C2) {n x : Nat} (hn : n < 16) : uI (mh_w h (cz G C)) 13 (nI n) (nI x) = some (mh_w h (cz G (upC C 13 n x))) := cz_uI hs (by decide) (by decide) (by decide) hn
theorem al_14 (hs : Sh h) (F : F2) : aL (mh_w h F) 14 = some (nI 1536) := aL_s hs F (by decide) (by decide)
theorem ai_14 (hs : Sh h) (G : F2) (C : C2) {n : Nat} (hn : n < 1536) : aI (mh_w h (cz G C)) 14 (nI n) = some (nI (C 14 n)) := cz_aI hs (by decide) (by decide) (by decide) hn
theorem ui_14 (hs : Sh h) (G : F2) (C : C2) {n x : Nat} (hn : n < 1536) : uI (mh_w h (cz G C)) 14 (nI n) (nI x) = some (mh_w h (cz G (upC C 14 n x))) := cz_uI hs (by decide) (by decide) (by decide) hn
theorem al_15 (hs : Sh h) (F : F2) : aL (mh_w h F) 15 = some (nI 24) := aL_s hs F (by decide) (by decide)
theorem ai_15 (hs : Sh h) (G : F2) (C : C2) {n : Nat} (hn : n < 24) : aI (mh_w h (cz G C)) 15 (nI n) = some (nI (C 15 n)) := cz_aI hs (by decide) (by decide) (by decide) hn
theorem ui_15 (hs : Sh h) (G : F2) (C : C2) {n x : Nat} (hn : n < 24) : uI (mh_w h (cz G C)) 15 (nI n) (nI x) = some (mh_w h (cz G (upC C 15 n x))) := cz_uI hs (by decide) (by decide) (by decide) hn
theorem ko_16 (hs : Sh h) {α : Type} (F : F2) (f : Option α) : kO (mh_w h F) 1 16 f = f := kO_s hs F (by decide) (by decide)
theorem gi_16 (hs : Sh h) (G : F2) (C : C2) (j : Nat) : gI (mh_w h (cz G C)) 1 16 j = some (nI (C 16 j)) := cz_gI hs (by decide) (by decide) (by decide)
theorem pi_16 (hs : Sh h) (G : F2) (C : C2) (j x : Nat) : pI (mh_w h (cz G C)) 1 16 j (nI x) = some (mh_w h (cz G (upC C 16 j x))) := cz_pI hs (by decide) (by decide) (by decide)
theorem al_17 (hs : Sh h) (F : F2) : aL (mh_w h F) 17 = some (nI 160) := aL_s hs F (by decide) (by decide)
theorem ai_17 (hs : Sh h) (G : F2) (C : C2) {n : Nat} (hn : n < 160) : aI (mh_w h (cz G C)) 17 (nI n) = some (nI (C 17 n)) := cz_aI hs (by decide) (by decide) (by decide) hn
theorem ui_17 (hs : Sh h) (G : F2) (C : C2) {n x : Nat} (hn : n < 160) : uI (mh_w h (cz G C)) 17 (nI n) (nI x) = some (mh_w h (cz G (upC C 17 n x))) := cz_uI hs (by decide) (by decide) (by decide) hn
theorem al_18 (hs : Sh h) (F : F2) : aL (mh_w h F) 18 = some (nI 480) := aL_s hs F (by decide) (by decide)
theorem ai_18 (hs : Sh h) (G : F2) (C : C2) {n : Nat} (hn : n < 480) : aI (mh_w h (cz G C)) 18 (nI n) = some (nI (C 18 n)) := cz_aI hs (by decide) (by decide) (by decide) hn
theorem ui_18 (hs : Sh h) (G : F2) (C : C2) {n x : Nat} (hn : n < 480) : uI (mh_w h (cz G C)) 18 (nI n) (nI x) = some (mh_w h (cz G (upC C 18 n x))) := cz_uI hs (by decide) (by decide) (by decide) hn
theorem al_19 (hs : Sh h) (F : F2) : aL (mh_w h F) 19 = some (nI 3) := aL_s hs F (by decide) (by decide)
theorem ai_19 (hs : Sh h) (G : F2) (C : C2) {n : Nat} (hn : n < 3) : aI (mh_w h (cz G C)) 19 (nI n) = some (G 19 n) := cz_aIo hs (by decide) (by decide) (by decide) hn
theorem ui_19 (hs : Sh h) (G : F2) (C : C2) {n : Nat} {x : Int32} (hn : n < 3) : uI (mh_w h (cz G C)) 19 (nI n) x = some (mh_w h (cz (up2 G 19 n x) C)) := cz_uIo hs (by decide) (by decide) (by decide) hn
theorem al_20 (hs : Sh h) (F : F2) : aL (mh_w h F) 20 = some (nI 16) := aL_s hs F (by decide) (by decide)
theorem ai_20 (hs : Sh h) (G : F2) (C : C2) {n : Nat} (hn : n < 16) : aI (mh_w h (cz G C)) 20 (nI n) = some (nI (C 20 n)) := cz_aI hs (by decide) (by decide) (by decide) hn
theorem ui_20 (hs : Sh h) (G : F2) (C : C2) {n x : Nat} (hn : n < 16) : uI (mh_w h (cz G C)) 20 (nI n) (nI x) = some (mh_w h (cz G (upC C 20 n x))) := cz_uI hs (by decide) (by decide) (by decide) hn
theorem al_21 (hs : Sh h) (F : F2) : aL (mh_w h F) 21 = some (nI 5) := aL_s hs F (by decide) (by decide)
theorem ai_21 (hs : Sh h) (G : F2) (C : C2) {n : Nat} (hn : n < 5) : aI (mh_w h (cz G C)) 21 (nI n) = some (nI (C 21 n)) := cz_aI hs (by decide) (by decide) (by decide) hn
theorem ui_21 (hs : Sh h) (G : F2) (C : C2) {n x : Nat} (hn : n < 5) : uI (mh_w h (cz G C)) 21 (nI n) (nI x) = some (mh_w h (cz G (upC C 21 n x))) := cz_uI hs (by decide) (by decide) (by decide) hn
theorem al_22 (hs : Sh h) (F : F2) : aL (mh_w h F) 22 = some (nI 32) := aL_s hs F (by decide) (by decide)
theorem ai_22 (hs : Sh h) (G : F2) (C : C2) {n : Nat} (hn : n < 32) : aI (mh_w h (cz G C)) 22 (nI n) = some (nI (C 22 n)) := cz_aI hs (by decide) (by decide) (by decide) hn
theorem ui_22 (hs : Sh h) (G : F2) (C : C2) {n x : Nat} (hn : n < 32) : uI (mh_w h (cz G C)) 22 (nI n) (nI x) = some (mh_w h (cz G (upC C 22 n x))) := cz_uI hs (by decide) (by decide) (by decide) hn
theorem ko_23 (hs : Sh h) {α : Type} (F : F2) (f : Option α) : kO (mh_w h F) 6 23 f = f := kO_s hs F (by decide) (by decide)
theorem gi_23 (hs : Sh h) (G : F2) (C : C2) (j : Nat) : gI (mh_w h (cz G C)) 6 23 j = some (nI (C 23 j)) := cz_gI hs (by decide) (by decide) (by decide)
theorem pi_23 (hs : Sh h) (G : F2) (C : C2) (j x : Nat) : pI (mh_w h (cz G C)) 6 23 j (nI x) = some (mh_w h (cz G (upC C 23 j x))) := cz_pI hs (by decide) (by decide) (by decide)
theorem al_24 (hs : Sh h) (F : F2) : aL (mh_w h F) 24 = some (nI 60) := aL_s hs F (by decide) (by decide)
theorem ai_24 (hs : Sh h) (G : F2) (C : C2) {n : Nat} (hn : n < 60) : aI (mh_w h (cz G C)) 24 (nI n) = some (nI (C 24 n)) := cz_aI hs (by decide) (by decide) (by decide) hn
theorem ui_24 (hs : Sh h) (G : F2) (C : C2) {n x : Nat} (hn : n < 60) : uI (mh_w h (cz G C)) 24 (nI n) (nI x) = some (mh_w h (cz G (upC C 24 n x))) := cz_uI hs (by decide) (by decide) (by decide) hn
theorem ko_25 (hs : Sh h) {α : Type} (F : F2) (f : Option α) : kO (mh_w h F) 6 25 f = f := kO_s hs F (by decide) (by decide)
theorem gi_25 (hs : Sh h) (G : F2) (C : C2) (j : Nat) : gI (mh_w h (cz G C)) 6 25 j = some (nI (C 25 j)) := cz_gI hs (by decide) (by decide) (by decide)
theorem pi_25 (hs : Sh h) (G : F2) (C : C2) (j x : Nat) : pI (mh_w h (cz G C)) 6 25 j (nI x) = some (mh_w h (cz G (upC C 25 j x))) := cz_pI hs (by decide) (by decide) (by decide)
theorem al_26 (hs : Sh h) (F : F2) : aL (mh_w h F) 26 = some (nI 61) := aL_s hs F (by decide) (by decide)
theorem ai_26 (hs : Sh h) (G : F2) (C : C2) {n : Nat} (hn : n < 61) : aI (mh_w h (cz G C)) 26 (nI n) = some (nI (C 26 n)) := cz_aI hs (by decide) (by decide) (by decide) hn
theorem ui_26 (hs : Sh h) (G : F2) (C : C2) {n x : Nat} (hn : n < 61) : uI (mh_w h (cz G C)) 26 (nI n) (nI x) = some (mh_w h (cz G (upC C 26 n x))) := cz_uI hs (by decide) (by decide) (by decide) hn
theorem ko_27 (hs : Sh h) {α : Type} (F : F2) (f : Option α) : kO (mh_w h F) 6 27 f = f := kO_s hs F (by decide) (by decide)
theorem gi_27 (hs : Sh h) (G : F2) (C : C2) (j : Nat) : gI (mh_w h (cz G C)) 6 27 j = some (nI (C 27 j)) := cz_gI hs (by decide) (by decide) (by decide)
theorem pi_27 (hs : Sh h) (G : F2) (C : C2) (j x : Nat) : pI (mh_w h (cz G C)) 6 27 j (nI x) = some (mh_w h (cz G (upC C 27 j x))) := cz_pI hs (by decide) (by decide) (by decide)
theorem al_28 (hs : Sh h) (F : F2) : aL (mh_w h F) 28 = some (nI 61) := aL_s hs F (by decide) (by decide)
theorem ai_28 (hs : Sh h) (G : F2) (C : C2) {n : Nat} (hn : n < 61) : aI (mh_w h (cz G C)) 28 (nI n) = some (nI (C 28 n)) := cz_aI hs (by decide) (by decide) (by decide) hn
theorem ui_28 (hs : Sh h) (G : F2) (C : C2) {n x : Nat} (hn : n < 61) : uI (mh_w h (cz G C)) 28 (nI n) (nI x) = some (mh_w h (cz G (upC C 28 n x))) := cz_uI hs (by decide) (by decide) (by decide) hn
theorem ko_29 (hs : Sh h) {α : Type} (F : F2) (f : Option α) : kO (mh_w h F) 6 29 f = f := kO_s hs F (by decide) (by decide)
theorem gi_29 (hs : Sh h) (G : F2) (C : C2) (j : Nat) : gI (mh_w h (cz G C)) 6 29 j = some (nI (C 29 j)) := cz_gI hs (by decide) (by decide) (by decide)
theorem pi_29 (hs : Sh h) (G : F2) (C : C2) (j x : Nat) : pI (mh_w h (cz G C)) 6 29 j (nI x) = some (mh_w h (cz G (upC C 29 j x))) := cz_pI hs (by decide) (by decide) (by decide)
theorem al_30 (hs : Sh h) (F : F2) : aL (mh_w h F) 30 = some (nI 24) := aL_s hs F (by decide) (by decide)
theorem ai_30 (hs : Sh h) (G : F2) (C : C2) {n : Nat} (hn : n < 24) : aI (mh_w h (cz G C)) 30 (nI n) = some (G 30 n) := cz_aIo hs (by decide) (by decide) (by decide) hn
theorem ui_30 (hs : Sh h) (G : F2) (C : C2) {n : Nat} {x : Int32} (hn : n < 24) : uI (mh_w h (cz G C)) 30 (nI n) x = some (mh_w h (cz (up2 G 30 n x) C)) := cz_uIo hs (by decide) (by decide) (by decide) hn
theorem ko_31 (hs : Sh h) {α : Type} (F : F2) (f : Option α) : kO (mh_w h F) 9 31 f = f := kO_s hs F (by decide) (by decide)
theorem gi_31 (hs : Sh h) (G : F2) (C : C2) (j : Nat) : gI (mh_w h (cz G C)) 9 31 j = some (nI (C 31 j)) := cz_gI hs (by decide) (by decide) (by decide)
theorem pi_31 (hs : Sh h) (G : F2) (C : C2) (j x : Nat) : pI (mh_w h (cz G C)) 9 31 j (nI x) = some (mh_w h (cz G (upC C 31 j x))) := cz_pI hs (by decide) (by decide) (by decide)
theorem ko_32 (hs : Sh h) {α : Type} (F : F2) (f : Option α) : kO (mh_w h F) 10 32 f = f := kO_s hs F (by decide) (by decide)
theorem gi_32 (hs : Sh h) (G : F2) (C : C2) (j : Nat) : gI (mh_w h (cz G C)) 10 32 j = some (nI (C 32 j)) := cz_gI hs (by decide) (by decide) (by decide)
theorem pi_32 (hs : Sh h) (G : F2) (C : C2) (j x : Nat) : pI (mh_w h (cz G C)) 10 32 j (nI x) = some (mh_w h (cz G (upC C 32 j x))) := cz_pI hs (by decide) (by decide) (by decide)
theorem al_33 (hs : Sh h) (F : F2) : aL (mh_w h F) 33 = some (nI 16) := aL_s hs F (by decide) (by decide)
theorem ai_33 (hs : Sh h) (G : F2) (C : C2) {n : Nat} (hn : n < 16) : aI (mh_w h (cz G C)) 33 (nI n) = some (nI (C 33 n)) := cz_aI hs (by decide) (by decide) (by decide) hn
theorem ui_33 (hs : Sh h) (G : F2) (C : C2) {n x : Nat} (hn : n < 16) : uI (mh_w h (cz G C)) 33 (nI n) (nI x) = some (mh_w h (cz G (upC C 33 n x))) := cz_uI hs (by decide) (by decide) (by decide) hn
theorem al_34 (hs : Sh h) (F : F2) : aL (mh_w h F) 34 = some (nI 16) := aL_s hs F (by decide) (by decide)
theorem ai_34 (hs : Sh h) (G : F2) (C : C2) {n : Nat} (hn : n < 16) : aI (mh_w h (cz G C)) 34 (nI n) = some (nI (C 34 n)) := cz_aI hs (by decide) (by decide) (by decide) hn
theorem ui_34 (hs : Sh h) (G : F2) (C : C2) {n x : Nat} (hn : n < 16) : uI (mh_w h (cz G C)) 34 (nI n) (nI x) = some (mh_w h (cz G (upC C 34 n x))) := cz_uI hs (by decide) (by decide) (by decide) hn
theorem al_35 (hs : Sh h) (F : F2) : aL (mh_w h F) 35 = some (nI 16) := aL_s hs F (by decide) (by decide)
theorem ai_35 (hs : Sh h) (G : F2) (C : C2) {n : Nat} (hn : n < 16) : aI (mh_w h (cz G C)) 35 (nI n) = some (nI (C 35 n)) := cz_aI hs (by decide) (by decide) (by decide) hn
theorem ui_35 (hs : Sh h) (G : F2) (C : C2) {n x : Nat} (hn : n < 16) : uI (mh_w h (cz G C)) 35 (nI n) (nI x) = some (mh_w h (cz G (upC C 35 n x))) := cz_uI hs (by decide) (by decide) (by decide) hn
theorem ko_37 (hs : Sh h) {α : Type} (F : F2) (f : Option α) : kO (mh_w h F) 8 37 f = f := kO_s hs F (by decide) (by decide)
theorem gi_37 (hs : Sh h) (G : F2) (C : C2) (j : Nat) : gI (mh_w h (cz G C)) 8 37 j = some (nI (C 37 j)) := cz_gI hs (by decide) (by decide) (by decide)
theorem pi_37 (hs : Sh h) (G : F2) (C : C2) (j x : Nat) : pI (mh_w h (cz G C)) 8 37 j (nI x) = some (mh_w h (cz G (upC C 37 j x))) := cz_pI hs (by decide) (by decide) (by decide)
theorem al_38 (hs : Sh h) (F : F2) : aL (mh_w h F) 38 = some (nI 4) := aL_s hs F (by decide) (by decide)
theorem ai_38 (hs : Sh h) (G : F2) (C : C2) {n : Nat} (hn : n < 4) : aI (mh_w h (cz G C)) 38 (nI n) = some (nI (C 38 n)) := cz_aI hs (by decide) (by decide) (by decide) hn
theorem ui_38 (hs : Sh h) (G : F2) (C : C2) {n x : Nat} (hn : n < 4) : uI (mh_w h (cz G C)) 38 (nI n) (nI x) = some (mh_w h (cz G (upC C 38 n x))) := cz_uI hs (by decide) (by decide) (by decide) hn
theorem al_39 (hs : Sh h) (F : F2) : aL (mh_w h F) 39 = some (nI 28) := aL_s hs F (by decide) (by decide)
theorem ai_39 (hs : Sh h) (G : F2) (C : C2) {n : Nat} (hn : n < 28) : aI (mh_w h (cz G C)) 39 (nI n) = some (nI (C 39 n)) := cz_aI hs (by decide) (by decide) (by decide) hn
theorem ui_39 (hs : Sh h) (G : F2) (C : C2) {n x : Nat} (hn : n < 28) : uI (mh_w h (cz G C)) 39 (nI n) (nI x) = some (mh_w h (cz G (upC C 39 n x))) := cz_uI hs (by decide) (by decide) (by decide) hn
theorem al_40 (hs : Sh h) (F : F2) : aL (mh_w h F) 40 = some (nI 80) := aL_s hs F (by decide) (by decide)
theorem ai_40 (hs : Sh h) (G : F2) (C : C2) {n : Nat} (hn : n < 80) : aI (mh_w h (cz G C)) 40 (nI n) = some (nI (C 40 n)) := cz_aI hs (by decide) (by decide) (by decide) hn
theorem ui_40 (hs : Sh h) (G : F2) (C : C2) {n x : Nat} (hn : n < 80) : uI (mh_w h (cz G C)) 40 (nI n) (nI x) = some (mh_w h (cz G (upC C 40 n x))) := cz_uI hs (by decide) (by decide) (by decide) hn
theorem al_41 (hs : Sh h) (F : F2) : aL (mh_w h F) 41 = some (nI 4800) := aL_s hs F (by decide) (by decide)
theorem ai_41 (hs : Sh h) (G : F2) (C : C2) {n : Nat} (hn : n < 4800) : aI (mh_w h (cz G C)) 41 (nI n) = some (nI (C 41 n)) := cz_aI hs (by decide) (by decide) (by decide) hn
theorem ui_41 (hs : Sh h) (G : F2) (C : C2) {n x : Nat} (hn : n < 4800) : uI (mh_w h (cz G C)) 41 (nI n) (nI x) = some (mh_w h (cz G (upC C 41 n x))) := cz_uI hs (by decide) (by decide) (by decide) hn
theorem al_42 (hs : Sh h) (F : F2) : aL (mh_w h F) 42 = some (nI 120) := aL_s hs F (by decide) (by decide)
theorem ai_42 (hs : Sh h) (G : F2) (C : C2) {n : Nat} (hn : n < 120) : aI (mh_w h (cz G C)) 42 (nI n) = some (nI (C 42 n)) := cz_aI hs (by decide) (by decide) (by decide) hn
theorem ui_42 (hs : Sh h) (G : F2) (C : C2) {n x : Nat} (hn : n < 120) : uI (mh_w h (cz G C)) 42 (nI n) (nI x) = some (mh_w h (cz G (upC C 42 n x))) := cz_uI hs (by decide) (by decide) (by decide) hn
theorem al_43 (hs : Sh h) (F : F2) : aL (mh_w h F) 43 = some (nI 16) := aL_s hs F (by decide) (by decide)
theorem ai_43 (hs : Sh h) (G : F2) (C : C2) {n : Nat} (hn : n < 16) : aI (mh_w h (cz G C)) 43 (nI n) = some (nI (C 43 n)) := cz_aI hs (by decide) (by decide) (by decide) hn
theorem ui_43 (hs : Sh h) (G : F2) (C : C2) {n x : Nat} (hn : n < 16) : uI (mh_w h (cz G C)) 43 (nI n) (nI x) = some (mh_w h (cz G (upC C 43 n x))) := cz_uI hs (by decide) (by decide) (by decide) hn
theorem al_44 (hs : Sh h) (F : F2) : aL (mh_w h F) 44 = some (nI 16) := aL_s hs F (by decide) (by decide)
theorem ai_44 (hs : Sh h) (G : F2) (C : C2) {n : Nat} (hn : n < 16) : aI (mh_w h (cz G C)) 44 (nI n) = some (nI (C 44 n)) := cz_aI hs (by decide) (by decide) (by decide) hn
theorem ui_44 (hs : Sh h) (G : F2) (C : C2) {n x : Nat} (hn : n < 16) : uI (mh_w h (cz G C)) 44 (nI n) (nI x) = some (mh_w h (cz G (upC C 44 n x))) := cz_uI hs (by decide) (by decide) (by decide) hn
theorem al_45 (hs : Sh h) (F : F2) : aL (mh_w h F) 45 = some (nI 1536) := aL_s hs F (by decide) (by decide)
theorem ai_45 (hs : Sh h) (G : F2) (C : C2) {n : Nat} (hn : n < 1536) : aI (mh_w h (cz G C)) 45 (nI n) = some (nI (C 45 n)) := cz_aI hs (by decide) (by decide) (by decide) hn
theorem ui_45 (hs : Sh h) (G : F2) (C : C2) {n x : Nat} (hn : n < 1536) : uI (mh_w h (cz G C)) 45 (nI n) (nI x) = some (mh_w h (cz G (upC C 45 n x))) := cz_uI hs (by decide) (by decide) (by decide) hn
theorem al_46 (hs : Sh h) (F : F2) : aL (mh_w h F) 46 = some (nI 24) := aL_s hs F (by decide) (by decide)
theorem ai_46 (hs : Sh h) (G : F2) (C : C2) {n : Nat} (hn : n < 24) : aI (mh_w h (cz G C)) 46 (nI n) = some (nI (C 46 n)) := cz_aI hs (by decide) (by decide) (by decide) hn
theorem ui_46 (hs : Sh h) (G : F2) (C : C2) {n x : Nat} (hn : n < 24) : uI (mh_w h (cz G C)) 46 (nI n) (nI x) = some (mh_w h (cz G (upC C 46 n x))) := cz_uI hs (by decide) (by decide) (by decide) hn
theorem ko_47 (hs : Sh h) {α : Type} (F : F2) (f : Option α) : kO (mh_w h F) 1 47 f = f := kO_s hs F (by decide) (by decide)
theorem gi_47 (hs : Sh h) (G : F2) (C : C2) (j : Nat) : gI (mh_w h (cz G C)) 1 47 j = some (nI (C 47 j)) := cz_gI hs (by decide) (by decide) (by decide)
theorem pi_47 (hs : Sh h) (G : F2) (C : C2) (j x : Nat) : pI (mh_w h (cz G C)) 1 47 j (nI x) = some (mh_w h (cz G (upC C 47 j x))) := cz_pI hs (by decide) (by decide) (by decide)
theorem al_48 (hs : Sh h) (F : F2) : aL (mh_w h F) 48 = some (nI 160) := aL_s hs F (by decide) (by decide)
theorem ai_48 (hs : Sh h) (G : F2) (C : C2) {n : Nat} (hn : n < 160) : aI (mh_w h (cz G C)) 48 (nI n) = some (nI (C 48 n)) := cz_aI hs (by decide) (by decide) (by decide) hn
theorem ui_48 (hs : Sh h) (G : F2) (C : C2) {n x : Nat} (hn : n < 160) : uI (mh_w h (cz G C)) 48 (nI n) (nI x) = some (mh_w h (cz G (upC C 48 n x))) := cz_uI hs (by decide) (by decide) (by decide) hn
theorem al_49 (hs : Sh h) (F : F2) : aL (mh_w h F) 49 = some (nI 480) := aL_s hs F (by decide) (by decide)
theorem ai_49 (hs : Sh h) (G : F2) (C : C2) {n : Nat} (hn : n < 480) : aI (mh_w h (cz G C)) 49 (nI n) = some (nI (C 49 n)) := cz_aI hs (by decide) (by decide) (by decide) hn
theorem ui_49 (hs : Sh h) (G : F2) (C : C2) {n x : Nat} (hn : n < 480) : uI (mh_w h (cz G C)) 49 (nI n) (nI x) = some (mh_w h (cz G (upC C 49 n x))) := cz_uI hs (by decide) (by decide) (by decide) hn
theorem al_50 (hs : Sh h) (F : F2) : aL (mh_w h F) 50 = some (nI 3) := aL_s hs F (by decide) (by decide)
theorem ai_50 (hs : Sh h) (G : F2) (C : C2) {n : Nat} (hn : n < 3) : aI (mh_w h (cz G C)) 50 (nI n) = some (G 50 n) := cz_aIo hs (by decide) (by decide) (by decide) hn
theorem ui_50 (hs : Sh h) (G : F2) (C : C2) {n : Nat} {x : Int32} (hn : n < 3) : uI (mh_w h (cz G C)) 50 (nI n) x = some (mh_w h (cz (up2 G 50 n x) C)) := cz_uIo hs (by decide) (by decide) (by decide) hn
theorem al_51 (hs : Sh h) (F : F2) : aL (mh_w h F) 51 = some (nI 16) := aL_s hs F (by decide) (by decide)
theorem ai_51 (hs : Sh h) (G : F2) (C : C2) {n : Nat} (hn : n < 16) : aI (mh_w h (cz G C)) 51 (nI n) = some (nI (C 51 n)) := cz_aI hs (by decide) (by decide) (by decide) hn
theorem ui_51 (hs : Sh h) (G : F2) (C : C2) {n x : Nat} (hn : n < 16) : uI (mh_w h (cz G C)) 51 (nI n) (nI x) = some (mh_w h (cz G (upC C 51 n x))) := cz_uI hs (by decide) (by decide) (by decide) hn
theorem al_52 (hs : Sh h) (F : F2) : aL (mh_w h F) 52 = some (nI 5) := aL_s hs F (by decide) (by decide)
theorem ai_52 (hs : Sh h) (G : F2) (C : C2) {n : Nat} (hn : n < 5) : aI (mh_w h (cz G C)) 52 (nI n) = some (nI (C 52 n)) := cz_aI hs (by decide) (by decide) (by decide) hn
theorem ui_52 (hs : Sh h) (G : F2) (C : C2) {n x : Nat} (hn : n < 5) : uI (mh_w h (cz G C)) 52 (nI n) (nI x) = some (mh_w h (cz G (upC C 52 n x))) := cz_uI hs (by decide) (by decide) (by decide) hn
theorem al_53 (hs : Sh h) (F : F2) : aL (mh_w h F) 53 = some (nI 32) := aL_s hs F (by decide) (by decide)
theorem ai_53 (hs : Sh h) (G : F2) (C : C2) {n : Nat} (hn : n < 32) : aI (mh_w h (cz G C)) 53 (nI n) = some (nI (C 53 n)) := cz_aI hs (by decide) (by decide) (by decide) hn
theorem ui_53 (hs : Sh h) (G : F2) (C : C2) {n x : Nat} (hn : n < 32) : uI (mh_w h (cz G C)) 53 (nI n) (nI x) = some (mh_w h (cz G (upC C 53 n x))) := cz_uI hs (by decide) (by decide) (by decide) hn
theorem ko_54 (hs : Sh h) {α : Type} (F : F2) (f : Option α) : kO (mh_w h F) 6 54 f = f := kO_s hs F (by decide) (by decide)
theorem gi_54 (hs : Sh h) (G : F2) (C : C2) (j : Nat) : gI (mh_w h (cz G C)) 6 54 j = some (nI (C 54 j)) := cz_gI hs (by decide) (by decide) (by decide)
theorem pi_54 (hs : Sh h) (G : F2) (C : C2) (j x : Nat) : pI (mh_w h (cz G C)) 6 54 j (nI x) = some (mh_w h (cz G (upC C 54 j x))) := cz_pI hs (by decide) (by decide) (by decide)
theorem al_55 (hs : Sh h) (F : F2) : aL (mh_w h F) 55 = some (nI 60) := aL_s hs F (by decide) (by decide)
theorem ai_55 (hs : Sh h) (G : F2) (C : C2) {n : Nat} (hn : n < 60) : aI (mh_w h (cz G C)) 55 (nI n) = some (nI (C 55 n)) := cz_aI hs (by decide) (by decide) (by decide) hn
theorem ui_55 (hs : Sh h) (G : F2) (C : C2) {n x : Nat} (hn : n < 60) : uI (mh_w h (cz G C)) 55 (nI n) (nI x) = some (mh_w h (cz G (upC C 55 n x))) := cz_uI hs (by decide) (by decide) (by decide) hn
theorem ko_56 (hs : Sh h) {α : Type} (F : F2) (f : Option α) : kO (mh_w h F) 6 56 f = f := kO_s hs F (by decide) (by decide)
theorem gi_56 (hs : Sh h) (G : F2) (C : C2) (j : Nat) : gI (mh_w h (cz G C)) 6 56 j = some (nI (C 56 j)) := cz_gI hs (by decide) (by decide) (by decide)
theorem pi_56 (hs : Sh h) (G : F2) (C : C2) (j x : Nat) : pI (mh_w h (cz G C)) 6 56 j (nI x) = some (mh_w h (cz G (upC C 56 j x))) := cz_pI hs (by decide) (by decide) (by decide)
theorem al_57 (hs : Sh h) (F : F2) : aL (mh_w h F) 57 = some (nI 61) := aL_s hs F (by decide) (by decide)
theorem ai_57 (hs : Sh h) (G : F2) (C : C2) {n : Nat} (hn : n < 61) : aI (mh_w h (cz G C)) 57 (nI n) = some (nI (C 57 n)) := cz_aI hs (by decide) (by decide) (by decide) hn
theorem ui_57 (hs : Sh h) (G : F2) (C : C2) {n x : Nat} (hn : n < 61) : uI (mh_w h (cz G C)) 57 (nI n) (nI x) = some (mh_w h (cz G (upC C 57 n x))) := cz_uI hs (by decide) (by decide) (by decide) hn
theorem ko_58 (hs : Sh h) {α : Type} (F : F2) (f : Option α) : kO (mh_w h F) 6 58 f = f := kO_s hs F (by decide) (by decide)
theorem gi_58 (hs : Sh h) (G : F2) (C : C2) (j : Nat) : gI (mh_w h (cz G C)) 6 58 j = some (nI (C 58 j)) := cz_gI hs (by decide) (by decide) (by decide)
theorem pi_58 (hs : Sh h) (G : F2) (C : C2) (j x : Nat) : pI (mh_w h (cz G C)) 6 58 j (nI x) = some (mh_w h (cz G (upC C 58 j x))) := cz_pI hs (by decide) (by decide) (by decide)
theorem al_59 (hs : Sh h) (F : F2) : aL (mh_w h F) 59 = some (nI 61) := aL_s hs F (by decide) (by decide)
theorem ai_59 (hs : Sh h) (G : F2) (C : C2) {n : Nat} (hn : n < 61) : aI (mh_w h (cz G C)) 59 (nI n) = some (nI (C 59 n)) := cz_aI hs (by decide) (by decide) (by decide) hn
theorem ui_59 (hs : Sh h) (G : F2) (C : C2) {n x : Nat} (hn : n < 61) : uI (mh_w h (cz G C)) 59 (nI n) (nI x) = some (mh_w h (cz G (upC C 59 n x))) := cz_uI hs (by decide) (by decide) (by decide) hn
theorem ko_60 (hs : Sh h) {α : Type} (F : F2) (f : Option α) : kO (mh_w h F) 6 60 f = f := kO_s hs F (by decide) (by decide)
theorem gi_60 (hs : Sh h) (G : F2) (C : C2) (j : Nat) : gI (mh_w h (cz G C)) 6 60 j = some (nI (C 60 j)) := cz_gI hs (by decide) (by decide) (by decide)
theorem pi_60 (hs : Sh h) (G : F2) (C : C2) (j x : Nat) : pI (mh_w h (cz G C)) 6 60 j (nI x) = some (mh_w h (cz G (upC C 60 j x))) := cz_pI hs (by decide) (by decide) (by decide)
theorem al_61 (hs : Sh h) (F : F2) : aL (mh_w h F) 61 = some (nI 24) := aL_s hs F (by decide) (by decide)
theorem ai_61 (hs : Sh h) (G : F2) (C : C2) {n : Nat} (hn : n < 24) : aI (mh_w h (cz G C)) 61 (nI n) = some (G 61 n) := cz_aIo hs (by decide) (by decide) (by decide) hn
theorem ui_61 (hs : Sh h) (G : F2) (C : C2) {n : Nat} {x : Int32} (hn : n < 24) : uI (mh_w h (cz G C)) 61 (nI n) x = some (mh_w h (cz (up2 G 61 n x) C)) := cz_uIo hs (by decide) (by decide) (by decide) hn
theorem ko_62 (hs : Sh h) {α : Type} (F : F2) (f : Option α) : kO (mh_w h F) 9 62 f = f := kO_s hs F (by decide) (by decide)
theorem gi_62 (hs : Sh h) (G : F2) (C : C2) (j : Nat) : gI (mh_w h (cz G C)) 9 62 j = some (nI (C 62 j)) := cz_gI hs (by decide) (by decide) (by decide)
theorem pi_62 (hs : Sh h) (G : F2) (C : C2) (j x : Nat) : pI (mh_w h (cz G C)) 9 62 j (nI x) = some (mh_w h (cz G (upC C 62 j x))) := cz_pI hs (by decide) (by decide) (by decide)
theorem ko_63 (hs : Sh h) {α : Type} (F : F2) (f : Option α) : kO (mh_w h F) 8 63 f = f := kO_s hs F (by decide) (by decide)
theorem gi_63 (hs : Sh h) (G : F2) (C : C2) (j : Nat) : gI (mh_w h (cz G C)) 8 63 j = some (nI (C 63 j)) := cz_gI hs (by decide) (by decide) (by decide)
theorem pi_63 (hs : Sh h) (G : F2) (C : C2) (j x : Nat) : pI (mh_w h (cz G C)) 8 63 j (nI x) = some (mh_w h (cz G (upC C 63 j x))) := cz_pI hs (by decide) (by decide) (by decide)
theorem al_64 (hs : Sh h) (F : F2) : aL (mh_w h F) 64 = some (nI 4) := aL_s hs F (by decide) (by decide)
theorem ai_64 (hs : Sh h) (G : F2) (C : C2) {n : Nat} (hn : n < 4) : aI (mh_w h (cz G C)) 64 (nI n) = some (nI (C 64 n)) := cz_aI hs (by decide) (by decide) (by decide) hn
theorem ui_64 (hs : Sh h) (G : F2) (C : C2) {n x : Nat} (hn : n < 4) : uI (mh_w h (cz G C)) 64 (nI n) (nI x) = some (mh_w h (cz G (upC C 64 n x))) := cz_uI hs (by decide) (by decide) (by decide) hn
theorem al_65 (hs : Sh h) (F : F2) : aL (mh_w h F) 65 = some (nI 28) := aL_s hs F (by decide) (by decide)
theorem ai_65 (hs : Sh h) (G : F2) (C : C2) {n : Nat} (hn : n < 28) : aI (mh_w h (cz G C)) 65 (nI n) = some (nI (C 65 n)) := cz_aI hs (by decide) (by decide) (by decide) hn
theorem ui_65 (hs : Sh h) (G : F2) (C : C2) {n x : Nat} (hn : n < 28) : uI (mh_w h (cz G C)) 65 (nI n) (nI x) = some (mh_w h (cz G (upC C 65 n x))) := cz_uI hs (by decide) (by decide) (by decide) hn
theorem al_66 (hs : Sh h) (F : F2) : aL (mh_w h F) 66 = some (nI 80) := aL_s hs F (by decide) (by decide)
theorem ai_66 (hs : Sh h) (G : F2) (C : C2) {n : Nat} (hn : n < 80) : aI (mh_w h (cz G C)) 66 (nI n) = some (nI (C 66 n)) := cz_aI hs (by decide) (by decide) (by decide) hn
theorem ui_66 (hs : Sh h) (G : F2) (C : C2) {n x : Nat} (hn : n < 80) : uI (mh_w h (cz G C)) 66 (nI n) (nI x) = some (mh_w h (cz G (upC C 66 n x))) := cz_uI hs (by decide) (by decide) (by decide) hn
theorem al_67 (hs : Sh h) (F : F2) : aL (mh_w h F) 67 = some (nI 4800) := aL_s hs F (by decide) (by decide)
theorem ai_67 (hs : Sh h) (G : F2) (C : C2) {n : Nat} (hn : n < 4800) : aI (mh_w h (cz G C)) 67 (nI n) = some (nI (C 67 n)) := cz_aI hs (by decide) (by decide) (by decide) hn
theorem ui_67 (hs : Sh h) (G : F2) (C : C2) {n x : Nat} (hn : n < 4800) : uI (mh_w h (cz G C)) 67 (nI n) (nI x) = some (mh_w h (cz G (upC C 67 n x))) := cz_uI hs (by decide) (by decide) (by decide) hn
theorem al_68 (hs : Sh h) (F : F2) : aL (mh_w h F) 68 = some (nI 120) := aL_s hs F (by decide) (by decide)
theorem ai_68 (hs : Sh h) (G : F2) (C : C2) {n : Nat} (hn : n < 120) : aI (mh_w h (cz G C)) 68 (nI n) = some (nI (C 68 n)) := cz_aI hs (by decide) (by decide) (by decide) hn
theorem ui_68 (hs : Sh h) (G : F2) (C : C2) {n x : Nat} (hn : n < 120) : uI (mh_w h (cz G C)) 68 (nI n) (nI x) = some (mh_w h (cz G (upC C 68 n x))) := cz_uI hs (by decide) (by decide) (by decide) hn
theorem al_69 (hs : Sh h) (F : F2) : aL (mh_w h F) 69 = some (nI 16) := aL_s hs F (by decide) (by decide)
theorem ai_69 (hs : Sh h) (G : F2) (C : C2) {n : Nat} (hn : n < 16) : aI (mh_w h (cz G C)) 69 (nI n) = some (nI (C 69 n)) := cz_aI hs (by decide) (by decide) (by decide) hn
theorem ui_69 (hs : Sh h) (G : F2) (C : C2) {n x : Nat} (hn : n < 16) : uI (mh_w h (cz G C)) 69 (nI n) (nI x) = some (mh_w h (cz G (upC C 69 n x))) := cz_uI hs (by decide) (by decide) (by decide) hn
theorem al_70 (hs : Sh h) (F : F2) : aL (mh_w h F) 70 = some (nI 16) := aL_s hs F (by decide) (by decide)
theorem ai_70 (hs : Sh h) (G : F2) (C : C2) {n : Nat} (hn : n < 16) : aI (mh_w h (cz G C)) 70 (nI n) = some (nI (C 70 n)) := cz_aI hs (by decide) (by decide) (by decide) hn
theorem ui_70 (hs : Sh h) (G : F2) (C : C2) {n x : Nat} (hn : n < 16) : uI (mh_w h (cz G C)) 70 (nI n) (nI x) = some (mh_w h (cz G (upC C 70 n x))) := cz_uI hs (by decide) (by decide) (by decide) hn
theorem al_71 (hs : Sh h) (F : F2) : aL (mh_w h F) 71 = some (nI 1536) := aL_s hs F (by decide) (by decide)
theorem ai_71 (hs : Sh h) (G : F2) (C : C2) {n : Nat} (hn : n < 1536) : aI (mh_w h (cz G C)) 71 (nI n) = some (nI (C 71 n)) := cz_aI hs (by decide) (by decide) (by decide) hn
theorem ui_71 (hs : Sh h) (G : F2) (C : C2) {n x : Nat} (hn : n < 1536) : uI (mh_w h (cz G C)) 71 (nI n) (nI x) = some (mh_w h (cz G (upC C 71 n x))) := cz_uI hs (by decide) (by decide) (by decide) hn
theorem al_72 (hs : Sh h) (F : F2) : aL (mh_w h F) 72 = some (nI 24) := aL_s hs F (by decide) (by decide)
theorem ai_72 (hs : Sh h) (G : F2) (C : C2) {n : Nat} (hn : n < 24) : aI (mh_w h (cz G C)) 72 (nI n) = some (nI (C 72 n)) := cz_aI hs (by decide) (by decide) (by decide) hn
theorem ui_72 (hs : Sh h) (G : F2) (C : C2) {n x : Nat} (hn : n < 24) : uI (mh_w h (cz G C)) 72 (nI n) (nI x) = some (mh_w h (cz G (upC C 72 n x))) := cz_uI hs (by decide) (by decide) (by decide) hn
theorem ko_73 (hs : Sh h) {α : Type} (F : F2) (f : Option α) : kO (mh_w h F) 5 73 f = f := kO_s hs F (by decide) (by decide)
theorem gi_73 (hs : Sh h) (G : F2) (C : C2) (j : Nat) : gI (mh_w h (cz G C)) 5 73 j = some (nI (C 73 j)) := cz_gI hs (by decide) (by decide) (by decide)
theorem pi_73 (hs : Sh h) (G : F2) (C : C2) (j x : Nat) : pI (mh_w h (cz G C)) 5 73 j (nI x) = some (mh_w h (cz G (upC C 73 j x))) := cz_pI hs (by decide) (by decide) (by decide)
theorem al_74 (hs : Sh h) (F : F2) : aL (mh_w h F) 74 = some (nI 4) := aL_s hs F (by decide) (by decide)
theorem ai_74 (hs : Sh h) (G : F2) (C : C2) {n : Nat} (hn : n < 4) : aI (mh_w h (cz G C)) 74 (nI n) = some (nI (C 74 n)) := cz_aI hs (by decide) (by decide) (by decide) hn
theorem ui_74 (hs : Sh h) (G : F2) (C : C2) {n x : Nat} (hn : n < 4) : uI (mh_w h (cz G C)) 74 (nI n) (nI x) = some (mh_w h (cz G (upC C 74 n x))) := cz_uI hs (by decide) (by decide) (by decide) hn
theorem ko_75 (hs : Sh h) {α : Type} (F : F2) (f : Option α) : kO (mh_w h F) 6 75 f = f := kO_s hs F (by decide) (by decide)
theorem gi_75 (hs : Sh h) (G : F2) (C : C2) (j : Nat) : gI (mh_w h (cz G C)) 6 75 j = some (nI (C 75 j)) := cz_gI hs (by decide) (by decide) (by decide)
theorem pi_75 (hs : Sh h) (G : F2) (C : C2) (j x : Nat) : pI (mh_w h (cz G C)) 6 75 j (nI x) = some (mh_w h (cz G (upC C 75 j x))) := cz_pI hs (by decide) (by decide) (by decide)
theorem al_76 (hs : Sh h) (F : F2) : aL (mh_w h F) 76 = some (nI 61) := aL_s hs F (by decide) (by decide)
theorem ai_76 (hs : Sh h) (G : F2) (C : C2) {n : Nat} (hn : n < 61) : aI (mh_w h (cz G C)) 76 (nI n) = some (nI (C 76 n)) := cz_aI hs (by decide) (by decide) (by decide) hn
theorem ui_76 (hs : Sh h) (G : F2) (C : C2) {n x : Nat} (hn : n < 61) : uI (mh_w h (cz G C)) 76 (nI n) (nI x) = some (mh_w h (cz G (upC C 76 n x))) := cz_uI hs (by decide) (by decide) (by decide) hn
theorem al_77 (hs : Sh h) (F : F2) : aL (mh_w h F) 77 = some (nI 61) := aL_s hs F (by decide) (by decide)
theorem ai_77 (hs : Sh h) (G : F2) (C : C2) {n : Nat} (hn : n < 61) : aI (mh_w h (cz G C)) 77 (nI n) = some (nI (C 77 n)) := cz_aI hs (by decide) (by decide) (by decide) hn
theorem ui_77 (hs : Sh h) (G : F2) (C : C2) {n x : Nat} (hn : n < 61) : uI (mh_w h (cz G C)) 77 (nI n) (nI x) = some (mh_w h (cz G (upC C 77 n x))) := cz_uI hs (by decide) (by decide) (by decide) hn
theorem al_78 (hs : Sh h) (F : F2) : aL (mh_w h F) 78 = some (nI 0) := aL_s hs F (by decide) (by decide)
theorem ai_78 (hs : Sh h) (G : F2) (C : C2) {n : Nat} (hn : n < 0) : aI (mh_w h (cz G C)) 78 (nI n) = some (nI (C 78 n)) := cz_aI hs (by decide) (by decide) (by decide) hn
theorem ui_78 (hs : Sh h) (G : F2) (C : C2) {n x : Nat} (hn : n < 0) : uI (mh_w h (cz G C)) 78 (nI n) (nI x) = some (mh_w h (cz G (upC C 78 n x))) := cz_uI hs (by decide) (by decide) (by decide) hn
theorem ko_79 (hs : Sh h) {α : Type} (F : F2) (f : Option α) : kO (mh_w h F) 6 79 f = f := kO_s hs F (by decide) (by decide)
theorem gi_79 (hs : Sh h) (G : F2) (C : C2) (j : Nat) : gI (mh_w h (cz G C)) 6 79 j = some (nI (C 79 j)) := cz_gI hs (by decide) (by decide) (by decide)
theorem pi_79 (hs : Sh h) (G : F2) (C : C2) (j x : Nat) : pI (mh_w h (cz G C)) 6 79 j (nI x) = some (mh_w h (cz G (upC C 79 j x))) := cz_pI hs (by decide) (by decide) (by decide)
theorem al_80 (hs : Sh h) (F : F2) : aL (mh_w h F) 80 = some (nI 30) := aL_s hs F (by decide) (by decide)
theorem ai_80 (hs : Sh h) (G : F2) (C : C2) {n : Nat} (hn : n < 30) : aI (mh_w h (cz G C)) 80 (nI n) = some (nI (C 80 n)) := cz_aI hs (by decide) (by decide) (by decide) hn
theorem ui_80 (hs : Sh h) (G : F2) (C : C2) {n x : Nat} (hn : n < 30) : uI (mh_w h (cz G C)) 80 (nI n) (nI x) = some (mh_w h (cz G (upC C 80 n x))) := cz_uI hs (by decide) (by decide) (by decide) hn
theorem al_81 (hs : Sh h) (F : F2) : aL (mh_w h F) 81 = some (nI 7) := aL_s hs F (by decide) (by decide)
theorem ai_81 (hs : Sh h) (G : F2) (C : C2) {n : Nat} (hn : n < 7) : aI (mh_w h (cz G C)) 81 (nI n) = some (nI (C 81 n)) := cz_aI hs (by decide) (by decide) (by decide) hn
theorem ui_81 (hs : Sh h) (G : F2) (C : C2) {n x : Nat} (hn : n < 7) : uI (mh_w h (cz G C)) 81 (nI n) (nI x) = some (mh_w h (cz G (upC C 81 n x))) := cz_uI hs (by decide) (by decide) (by decide) hn
theorem al_82 (hs : Sh h) (F : F2) : aL (mh_w h F) 82 = some (nI 4) := aL_s hs F (by decide) (by decide)
theorem ai_82 (hs : Sh h) (G : F2) (C : C2) {n : Nat} (hn : n < 4) : aI (mh_w h (cz G C)) 82 (nI n) = some (nI (C 82 n)) := cz_aI hs (by decide) (by decide) (by decide) hn
theorem ui_82 (hs : Sh h) (G : F2) (C : C2) {n x : Nat} (hn : n < 4) : uI (mh_w h (cz G C)) 82 (nI n) (nI x) = some (mh_w h (cz G (upC C 82 n x))) := cz_uI hs (by decide) (by decide) (by decide) hn
theorem al_83 (hs : Sh h) (F : F2) : aL (mh_w h F) 83 = some (nI 4) := aL_s hs F (by decide) (by decide)
theorem ai_83 (hs : Sh h) (G : F2) (C : C2) {n : Nat} (hn : n < 4) : aI (mh_w h (cz G C)) 83 (nI n) = some (nI (C 83 n)) := cz_aI hs (by decide) (by decide) (by decide) hn
theorem ui_83 (hs : Sh h) (G : F2) (C : C2) {n x : Nat} (hn : n < 4) : uI (mh_w h (cz G C)) 83 (nI n) (nI x) = some (mh_w h (cz G (upC C 83 n x))) := cz_uI hs (by decide) (by decide) (by decide) hn
theorem al_84 (hs : Sh h) (F : F2) : aL (mh_w h F) 84 = some (nI 96) := aL_s hs F (by decide) (by decide)
theorem ai_84 (hs : Sh h) (G : F2) (C : C2) {n : Nat} (hn : n < 96) : aI (mh_w h (cz G C)) 84 (nI n) = some (G 84 n) := cz_aIo hs (by decide) (by decide) (by decide) hn
theorem ui_84 (hs : Sh h) (G : F2) (C : C2) {n : Nat} {x : Int32} (hn : n < 96) : uI (mh_w h (cz G C)) 84 (nI n) x = some (mh_w h (cz (up2 G 84 n x) C)) := cz_uIo hs (by decide) (by decide) (by decide) hn
theorem al_85 (hs : Sh h) (F : F2) : aL (mh_w h F) 85 = some (nI 16) := aL_s hs F (by decide) (by decide)
theorem ai_85 (hs : Sh h) (G : F2) (C : C2) {n : Nat} (hn : n < 16) : aI (mh_w h (cz G C)) 85 (nI n) = some (G 85 n) := cz_aIo hs (by decide) (by decide) (by decide) hn
theorem ui_85 (hs : Sh h) (G : F2) (C : C2) {n : Nat} {x : Int32} (hn : n < 16) : uI (mh_w h (cz G C)) 85 (nI n) x = some (mh_w h (cz (up2 G 85 n x) C)) := cz_uIo hs (by decide) (by decide) (by decide) hn
theorem ko_86 (hs : Sh h) {α : Type} (F : F2) (f : Option α) : kO (mh_w h F) 12 86 f = f := kO_s hs F (by decide) (by decide)
theorem gi_86 (hs : Sh h) (G : F2) (Z : Z1) (j : Nat) : gI (mh_w h (gz G Z)) 12 86 j = some (G 86 j) := (gI_s hs _ (by decide) (by decide)).trans (by show some (if 86 = 87 ∧ j < 7770 then _ else _) = _; rw [if_neg (fun q => by omega)])
theorem pi_86 (hs : Sh h) (G : F2) (Z : Z1) (j : Nat) (x : Int32) : pI (mh_w h (gz G Z)) 12 86 j x = some (mh_w h (gz (up2 G 86 j x) Z)) := (pI_s hs _ (by decide) (by decide)).trans (by rw [gz_upo G Z (by decide)])
theorem al_87 (hs : Sh h) (F : F2) : aL (mh_w h F) 87 = some (nI 7794) := aL_s hs F (by decide) (by decide)
theorem ai_87 (hs : Sh h) (G : F2) (Z : Z1) {n : Nat} (hn : n < 7770) : aI (mh_w h (gz G Z)) 87 (nI n) = some (nI (Z n)) := mz_get hs hn
theorem ui_87 (hs : Sh h) (G : F2) (Z : Z1) {n x : Nat} (hn : n < 7770) : uI (mh_w h (gz G Z)) 87 (nI n) (nI x) = some (mh_w h (gz G (upZ Z n x))) := mz_set hs hn
theorem al_88 (hs : Sh h) (F : F2) : aL (mh_w h F) 88 = some (nI 7794) := aL_s hs F (by decide) (by decide)
theorem ai_88 (hs : Sh h) (G : F2) (Z : Z1) {n : Nat} (hn : n < 7794) : aI (mh_w h (gz G Z)) 88 (nI n) = some (G 88 n) := mz_other hs (by decide) (by decide) (by decide) hn
theorem ui_88 (hs : Sh h) (G : F2) (Z : Z1) {n : Nat} {x : Int32} (hn : n < 7794) : uI (mh_w h (gz G Z)) 88 (nI n) x = some (mh_w h (gz (up2 G 88 n x) Z)) := mz_seto hs (by decide) (by decide) (by decide) hn
theorem al_89 (hs : Sh h) (F : F2) : aL (mh_w h F) 89 = some (nI 7794) := aL_s hs F (by decide) (by decide)
theorem ai_89 (hs : Sh h) (G : F2) (Z : Z1) {n : Nat} (hn : n < 7794) : aI (mh_w h (gz G Z)) 89 (nI n) = some (G 89 n) := mz_other hs (by decide) (by decide) (by decide) hn
theorem ui_89 (hs : Sh h) (G : F2) (Z : Z1) {n : Nat} {x : Int32} (hn : n < 7794) : uI (mh_w h (gz G Z)) 89 (nI n) x = some (mh_w h (gz (up2 G 89 n x) Z)) := mz_seto hs (by decide) (by decide) (by decide) hn
theorem al_90 (hs : Sh h) (F : F2) : aL (mh_w h F) 90 = some (nI 7) := aL_s hs F (by decide) (by decide)
theorem ai_90 (hs : Sh h) (G : F2) (Z : Z1) {n : Nat} (hn : n < 7) : aI (mh_w h (gz G Z)) 90 (nI n) = some (G 90 n) := mz_other hs (by decide) (by decide) (by decide) hn
theorem ui_90 (hs : Sh h) (G : F2) (Z : Z1) {n : Nat} {x : Int32} (hn : n < 7) : uI (mh_w h (gz G Z)) 90 (nI n) x = some (mh_w h (gz (up2 G 90 n x) Z)) := mz_seto hs (by decide) (by decide) (by decide) hn
theorem al_91 (hs : Sh h) (F : F2) : aL (mh_w h F) 91 = some (nI 16) := aL_s hs F (by decide) (by decide)
theorem ai_91 (hs : Sh h) (G : F2) (Z : Z1) {n : Nat} (hn : n < 16) : aI (mh_w h (gz G Z)) 91 (nI n) = some (G 91 n) := mz_other hs (by decide) (by decide) (by decide) hn
theorem ui_91 (hs : Sh h) (G : F2) (Z : Z1) {n : Nat} {x : Int32} (hn : n < 16) : uI (mh_w h (gz G Z)) 91 (nI n) x = some (mh_w h (gz (up2 G 91 n x) Z)) := mz_seto hs (by decide) (by decide) (by decide) hn
theorem al_92 (hs : Sh h) (F : F2) : aL (mh_w h F) 92 = some (nI 24) := aL_s hs F (by decide) (by decide)
theorem ai_92 (hs : Sh h) (G : F2) (Z : Z1) {n : Nat} (hn : n < 24) : aI (mh_w h (gz G Z)) 92 (nI n) = some (G 92 n) := mz_other hs (by decide) (by decide) (by decide) hn
theorem ui_92 (hs : Sh h) (G : F2) (Z : Z1) {n : Nat} {x : Int32} (hn : n < 24) : uI (mh_w h (gz G Z)) 92 (nI n) x = some (mh_w h (gz (up2 G 92 n x) Z)) := mz_seto hs (by decide) (by decide) (by decide) hn
theorem al_93 (hs : Sh h) (F : F2) : aL (mh_w h F) 93 = some (nI 64) := aL_s hs F (by decide) (by decide)
theorem ai_93 (hs : Sh h) (G : F2) (Z : Z1) {n : Nat} (hn : n < 64) : aI (mh_w h (gz G Z)) 93 (nI n) = some (G 93 n) := mz_other hs (by decide) (by decide) (by decide) hn
theorem ui_93 (hs : Sh h) (G : F2) (Z : Z1) {n : Nat} {x : Int32} (hn : n < 64) : uI (mh_w h (gz G Z)) 93 (nI n) x = some (mh_w h (gz (up2 G 93 n x) Z)) := mz_seto hs (by decide) (by decide) (by decide) hn
theorem al_94 (hs : Sh h) (F : F2) : aL (mh_w h F) 94 = some (nI 12) := aL_s hs F (by decide) (by decide)
theorem ai_94 (hs : Sh h) (G : F2) (Z : Z1) {n : Nat} (hn : n < 12) : aI (mh_w h (gz G Z)) 94 (nI n) = some (G 94 n) := mz_other hs (by decide) (by decide) (by decide) hn
theorem ui_94 (hs : Sh h) (G : F2) (Z : Z1) {n : Nat} {x : Int32} (hn : n < 12) : uI (mh_w h (gz G Z)) 94 (nI n) x = some (mh_w h (gz (up2 G 94 n x) Z)) := mz_seto hs (by decide) (by decide) (by decide) hn
theorem al_95 (hs : Sh h) (F : F2) : aL (mh_w h F) 95 = some (nI 4) := aL_s hs F (by decide) (by decide)
theorem ai_95 (hs : Sh h) (G : F2) (Z : Z1) {n : Nat} (hn : n < 4) : aI (mh_w h (gz G Z)) 95 (nI n) = some (G 95 n) := mz_other hs (by decide) (by decide) (by decide) hn
theorem ui_95 (hs : Sh h) (G : F2) (Z : Z1) {n : Nat} {x : Int32} (hn : n < 4) : uI (mh_w h (gz G Z)) 95 (nI n) x = some (mh_w h (gz (up2 G 95 n x) Z)) := mz_seto hs (by decide) (by decide) (by decide) hn
theorem al_96 (hs : Sh h) (F : F2) : aL (mh_w h F) 96 = some (nI 64) := aL_s hs F (by decide) (by decide)
theorem ai_96 (hs : Sh h) (G : F2) (Z : Z1) {n : Nat} (hn : n < 64) : aI (mh_w h (gz G Z)) 96 (nI n) = some (G 96 n) := mz_other hs (by decide) (by decide) (by decide) hn
theorem ui_96 (hs : Sh h) (G : F2) (Z : Z1) {n : Nat} {x : Int32} (hn : n < 64) : uI (mh_w h (gz G Z)) 96 (nI n) x = some (mh_w h (gz (up2 G 96 n x) Z)) := mz_seto hs (by decide) (by decide) (by decide) hn
theorem al_97 (hs : Sh h) (F : F2) : aL (mh_w h F) 97 = some (nI 5) := aL_s hs F (by decide) (by decide)
theorem ai_97 (hs : Sh h) (G : F2) (Z : Z1) {n : Nat} (hn : n < 5) : aI (mh_w h (gz G Z)) 97 (nI n) = some (G 97 n) := mz_other hs (by decide) (by decide) (by decide) hn
theorem ui_97 (hs : Sh h) (G : F2) (Z : Z1) {n : Nat} {x : Int32} (hn : n < 5) : uI (mh_w h (gz G Z)) 97 (nI n) x = some (mh_w h (gz (up2 G 97 n x) Z)) := mz_seto hs (by decide) (by decide) (by decide) hn
theorem al_98 (hs : Sh h) (F : F2) : aL (mh_w h F) 98 = some (nI 5) := aL_s hs F (by decide) (by decide)
theorem ai_98 (hs : Sh h) (G : F2) (Z : Z1) {n : Nat} (hn : n < 5) : aI (mh_w h (gz G Z)) 98 (nI n) = some (G 98 n) := mz_other hs (by decide) (by decide) (by decide) hn
theorem ui_98 (hs : Sh h) (G : F2) (Z : Z1) {n : Nat} {x : Int32} (hn : n < 5) : uI (mh_w h (gz G Z)) 98 (nI n) x = some (mh_w h (gz (up2 G 98 n x) Z)) := mz_seto hs (by decide) (by decide) (by decide) hn
theorem al_99 (hs : Sh h) (F : F2) : aL (mh_w h F) 99 = some (nI 32) := aL_s hs F (by decide) (by decide)
theorem ai_99 (hs : Sh h) (G : F2) (Z : Z1) {n : Nat} (hn : n < 32) : aI (mh_w h (gz G Z)) 99 (nI n) = some (G 99 n) := mz_other hs (by decide) (by decide) (by decide) hn
theorem ui_99 (hs : Sh h) (G : F2) (Z : Z1) {n : Nat} {x : Int32} (hn : n < 32) : uI (mh_w h (gz G Z)) 99 (nI n) x = some (mh_w h (gz (up2 G 99 n x) Z)) := mz_seto hs (by decide) (by decide) (by decide) hn
theorem al_100 (hs : Sh h) (F : F2) : aL (mh_w h F) 100 = some (nI 16) := aL_s hs F (by decide) (by decide)
theorem ai_100 (hs : Sh h) (G : F2) (Z : Z1) {n : Nat} (hn : n < 16) : aI (mh_w h (gz G Z)) 100 (nI n) = some (G 100 n) := mz_other hs (by decide) (by decide) (by decide) hn
theorem ui_100 (hs : Sh h) (G : F2) (Z : Z1) {n : Nat} {x : Int32} (hn : n < 16) : uI (mh_w h (gz G Z)) 100 (nI n) x = some (mh_w h (gz (up2 G 100 n x) Z)) := mz_seto hs (by decide) (by decide) (by decide) hn
theorem al_101 (hs : Sh h) (F : F2) : aL (mh_w h F) 101 = some (nI 30) := aL_s hs F (by decide) (by decide)
theorem ai_101 (hs : Sh h) (G : F2) (Z : Z1) {n : Nat} (hn : n < 30) : aI (mh_w h (gz G Z)) 101 (nI n) = some (G 101 n) := mz_other hs (by decide) (by decide) (by decide) hn
theorem ui_101 (hs : Sh h) (G : F2) (Z : Z1) {n : Nat} {x : Int32} (hn : n < 30) : uI (mh_w h (gz G Z)) 101 (nI n) x = some (mh_w h (gz (up2 G 101 n x) Z)) := mz_seto hs (by decide) (by decide) (by decide) hn
theorem al_102 (hs : Sh h) (F : F2) : aL (mh_w h F) 102 = some (nI 4) := aL_s hs F (by decide) (by decide)
theorem ai_102 (hs : Sh h) (G : F2) (Z : Z1) {n : Nat} (hn : n < 4) : aI (mh_w h (gz G Z)) 102 (nI n) = some (G 102 n) := mz_other hs (by decide) (by decide) (by decide) hn
theorem ui_102 (hs : Sh h) (G : F2) (Z : Z1) {n : Nat} {x : Int32} (hn : n < 4) : uI (mh_w h (gz G Z)) 102 (nI n) x = some (mh_w h (gz (up2 G 102 n x) Z)) := mz_seto hs (by decide) (by decide) (by decide) hn
theorem al_103 (hs : Sh h) (F : F2) : aL (mh_w h F) 103 = some (nI 4) := aL_s hs F (by decide) (by decide)
theorem ai_103 (hs : Sh h) (G : F2) (Z : Z1) {n : Nat} (hn : n < 4) : aI (mh_w h (gz G Z)) 103 (nI n) = some (G 103 n) := mz_other hs (by decide) (by decide) (by decide) hn
theorem ui_103 (hs : Sh h) (G : F2) (Z : Z1) {n : Nat} {x : Int32} (hn : n < 4) : uI (mh_w h (gz G Z)) 103 (nI n) x = some (mh_w h (gz (up2 G 103 n x) Z)) := mz_seto hs (by decide) (by decide) (by decide) hn
theorem al_104 (hs : Sh h) (F : F2) : aL (mh_w h F) 104 = some (nI 96) := aL_s hs F (by decide) (by decide)
theorem ai_104 (hs : Sh h) (G : F2) (Z : Z1) {n : Nat} (hn : n < 96) : aI (mh_w h (gz G Z)) 104 (nI n) = some (G 104 n) := mz_other hs (by decide) (by decide) (by decide) hn
theorem ui_104 (hs : Sh h) (G : F2) (Z : Z1) {n : Nat} {x : Int32} (hn : n < 96) : uI (mh_w h (gz G Z)) 104 (nI n) x = some (mh_w h (gz (up2 G 104 n x) Z)) := mz_seto hs (by decide) (by decide) (by decide) hn
end ACC
