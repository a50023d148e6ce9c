/-! a text of a use: what both told of it -/
section T09
variable {h : mh_H} {F0 : F2} {C : C2} {Z : Z1} {T : List Nat} {K u N p f o b n k : Nat} {vs vs' : Nat → Nat}
def tl (n : Nat) (B : Nat → Nat) : List Nat := (List.range n).map B
theorem tl_len (n : Nat) (B : Nat → Nat) : (tl n B).length = n := by
  unfold tl
  rw [List.length_map, List.length_range]
theorem tl_ch {n : Nat} {B : Nat → Nat} {i : Nat} (hi : i < n) : chL (tl n B) i = B i := by
  unfold chL tl
  rw [List.getD_eq_getElem?_getD, List.getElem?_map, List.getElem?_range hi]
  rfl
theorem tl_cg {n : Nat} {B B' : Nat → Nat} (h : ∀ i, i < n → B' i = B i) : tl n B' = tl n B := by
  unfold tl
  exact List.map_congr_left fun i hi => h i (List.mem_range.mp hi)
/-- the text is without a fault, and the reference's row has its codes -/
def TXt (u n : Nat) (B : Nat → Nat) (Z : Z1) : Prop := n ≤ 60 ∧ BY (tl n B) ∧ (pCs (tl n B) u 6 0).2.1 = 0 ∧ (pCs (tl n B) u 6 0).1 = n ∧ Z (7556 + 77 * u) = (pCs (tl n B) u 6 0).2.2.length ∧ (pCs (tl n B) u 6 0).2.2.length ≤ 6 ∧ (∀ i, i < 2 * (pCs (tl n B) u 6 0).2.2.length → Z (7557 + 77 * u + i) = (encL 0 (pCs (tl n B) u 6 0).2.2).getD i 0) ∧ (cat (pCs (tl n B) u 6 0).2.2).length ≤ 60 ∧ ∀ i, i < (cat (pCs (tl n B) u 6 0).2.2).length → Z (7569 + 77 * u + i) = (cat (pCs (tl n B) u 6 0).2.2).getD i 0
theorem TXt_c : TXc TXt := by
  intro u n B Z Z' hu hZ ⟨h1, h2, h3, h4, h5, h6, h7, h8, h9⟩
  exact ⟨h1, h2, h3, h4, by rw [hZ _ (by omega) (by omega)]; exact h5, h6, fun i hi => by rw [hZ _ (by omega) (by omega)]; exact h7 i hi, h8, fun i hi => by rw [hZ _ (by omega) (by omega)]; exact h9 i hi⟩
theorem TXt_d : TXd TXt := by
  intro u n B B' Z hu hB hq
  unfold TXt at hq ⊢
  rw [tl_cg hB]
  exact hq
/-- the reader's references alone have changed -/
def rd (h : mh_H) (K s : Nat) : mh_H := mh_sr (mh_sr h 73 1 (some K)) 73 3 (some s)
theorem Sh_sr (hs : Sh h) {j : Nat} {x : Option Nat} (hj : Rd 73 j = none) : Sh (mh_sr h 73 j x) := by
  refine ⟨hs.1, hs.2.1, fun k i r e => ?_⟩
  show (if k = 73 ∧ i = j then x else mh_r h k i) = some r
  rw [if_neg (fun q => by rw [q.1, q.2, hj] at e; cases e)]
  exact hs.2.2 k i r e
theorem Sh_rd (hs : Sh h) (K s : Nat) : Sh (rd h K s) := Sh_sr (Sh_sr hs (by decide)) (by decide)
theorem pR_73 (hs : Sh h) (F : F2) (j x : Nat) : pR (mh_w h F) 5 73 j x = some (mh_w (mh_sr h 73 j (some x)) F) := if_pos ⟨Nat.lt_of_lt_of_le (by decide) hs.1, ((hs.2.1 73 (by decide)).1).trans (by decide)⟩
theorem stC_of : upC (upC C 73 4 p) 73 5 f = stC C p f := by
  funext a j
  unfold upC stC
  by_cases h1 : a = 73
  · by_cases h2 : j = 4
    · have h3 : ¬ j = 5 := by omega
      simp only [h1, h2, and_self, if_true]
      rw [if_neg (by decide)]
    · by_cases h3 : j = 5
      · simp only [h1, h3, and_self, if_true]
        rw [if_neg (by decide)]
      · simp only [h1, h2, h3, and_false, if_true, if_false]
  · simp only [h1, false_and, if_false]
theorem c_begin (hs : Sh h) (N : Nat) {s : Nat} (hk : k = 23 ∨ k = 25 ∨ k = 27) (hn : C k 1 = n) (h60 : n ≤ 60) : D_X5_begin N (mh_w h (cz F0 C)) 73 k s = some (mh_w (rd h (k + 1) s) (cz F0 (stC (upC C 73 2 n) 0 0))) := by
  have hs1 : Sh (mh_sr h 73 1 (some (k + 1))) := Sh_sr hs (by decide)
  have hs2 : Sh (mh_sr (mh_sr h 73 1 (some (k + 1))) 73 3 (some s)) := Sh_sr hs1 (by decide)
  have g0 : ∀ {h' : mh_H}, Sh h' → ∀ F, gR (mh_w h' F) 6 k 0 = some (k + 1) := fun hs' F => by
    rcases hk with rfl | rfl | rfl
    · exact gr_23_0 hs' F
    · exact gr_25_0 hs' F
    · exact gr_27_0 hs' F
  have g1 : ∀ {h' : mh_H}, Sh h' → gI (mh_w h' (cz F0 C)) 6 k 1 = some (nI n) := fun hs' => by
    rw [← hn]
    rcases hk with rfl | rfl | rfl
    · exact gi_23 hs' _ _ _
    · exact gi_25 hs' _ _ _
    · exact gi_27 hs' _ _ _
  have g2 : ∀ {h' : mh_H}, Sh h' → ∀ F, aL (mh_w h' F) (k + 1) = some (nI 60) := fun hs' F => by
    rcases hk with rfl | rfl | rfl
    · exact al_24 hs' F
    · exact al_26 hs' F
    · exact al_28 hs' F
  unfold D_X5_begin
  rw [g0 hs, some_bind, pR_73 hs, some_bind, g1 hs1, some_bind, g0 hs1, some_bind, g2 hs1, some_bind, min_n (by omega) (by decide), Nat.min_eq_left h60, pi_73 hs1, some_bind, pR_73 hs1, some_bind]
  refine Eq.trans (bind_of (pi_73 hs2 _ _ 4 0) _) ?_
  refine Eq.trans (bind_of (pb_73 hs2 _ _ (x := 0) (by decide)) _) ?_
  rw [stC_of]
  rfl
theorem TS_rd (hs : Sh h) (hk : k = 23 ∨ k = 25 ∨ k = 27) (hu : u < 2) (hB : BY (tl n (C (k + 1)))) : TS (rd h (k + 1) (1000000001 + u)) (upC C 73 2 n) (tl n (C (k + 1))) (k + 1) u := by
  refine ⟨Sh_rd hs _ _, by omega, rfl, rfl, hu, ?_, hB, fun i hi => ?_⟩
  · rw [upC_s, tl_len]
  · rw [tl_len] at hi
    rw [upC_o (by omega), tl_ch hi]
theorem c_vc (hT : TS h C T K u) (hN : 10000 ≤ N) : ∀ m p, p ≤ T.length → 1 ≤ m → (pCs T u m p).2.1 = 0 → VC (C 74) (pCs T u m p).2.2 := by
  intro m
  induction m with
  | zero => intro p hp h1; omega
  | succ m ih =>
    intro p hp h1
    obtain ⟨v, e1, e2⟩ := c_sm (F0 := fun _ _ => 0) hT hN 4 12 0 p (by omega) (by omega) hp
    obtain ⟨a1, a2, a3, a4⟩ := pSm_gd T u 4 p hp
    obtain ⟨hb', x1, x2, x3⟩ := c_tst (F0 := fun _ _ => 0) hT hN a2 a3
    obtain ⟨b1, b2, b3, b4⟩ := pTt_gd T u a2 a3
    have hok := pTt_ok (T := T) (u := u) (s := pSm T u 4 p)
    rw [pCs]
    generalize pSm T u 4 p = s at *
    generalize pTt T u s = t at *
    by_cases qa : ((t.2.1 = 0 ∧ chL T t.1 = 59) ∧ 1 ≤ m)
    · rw [if_pos qa]
      intro g1 c hc
      have hl := chL_lt (T := T) (p := t.1) (by omega)
      rcases List.mem_cons.mp hc with rfl | hc
      · obtain ⟨ws, y1, -⟩ := x3 qa.1.1
        exact ⟨⟨v, e2 (hok qa.1.1)⟩, ws, y1⟩
      · exact ih (t.1 + 1) (by omega) qa.2 g1 c hc
    · rw [if_neg qa]
      intro g1 c hc
      have g1 : t.2.1 = 0 := g1
      rcases List.mem_cons.mp hc with rfl | hc
      · obtain ⟨ws, y1, -⟩ := x3 g1
        exact ⟨⟨v, e2 (hok g1)⟩, ws, y1⟩
      · cases hc
theorem c_told (hs : Sh h) (hN : 10000 ≤ N) (hk : k = 23 ∨ k = 25 ∨ k = 27) (hu : u < 2) (hn : C k 1 = n) (h60 : n ≤ 60) (hB : BY (tl n (C (k + 1)))) (g1 : (pCs (tl n (C (k + 1))) u 6 0).2.1 = 0) (g2 : (pCs (tl n (C (k + 1))) u 6 0).1 = n) : ∃ C', D_X5_toldBy N (mh_w h (cz F0 C)) 73 k (1000000001 + u) = some (svT (C 74) (pCs (tl n (C (k + 1))) u 6 0).2.2, mh_w (rd h (k + 1) (1000000001 + u)) (cz F0 C')) ∧ (∀ a, a ≠ 73 → C' a = C a) ∧ VC (C 74) (pCs (tl n (C (k + 1))) u 6 0).2.2 := by
  have hT := TS_rd (C := C) (n := n) (h := h) hs hk hu hB
  have e1 := c_begin (F0 := F0) (s := 1000000001 + u) hs N hk hn h60
  obtain ⟨p', f', e2⟩ := c_tl (F0 := F0) hT hN 6 N 0 0 (by omega) (by omega) (Nat.zero_le _) (by decide) g1 (by rw [tl_len]; exact g2)
  have e3 := c_vc hT hN 6 0 (Nat.zero_le _) (by decide) g1
  rw [upC_o (by decide)] at e2 e3
  refine ⟨stC (upC C 73 2 n) p' f', ?_, fun a ha => by rw [stC_o ha, upC_o ha], e3⟩
  unfold D_X5_toldBy
  refine Eq.trans (kO_s hs _ (by decide) (by decide)) ?_
  refine Eq.trans (bind_of e1 _) ?_
  exact e2
theorem c_casesOf (hs : Sh h) (hN : 10000 ≤ N) (hk : k = 23 ∨ k = 25 ∨ k = 27) (hu : u < 2) (hn : C k 1 = n) (h60 : n ≤ 60) (hB : BY (tl n (C (k + 1)))) : ∃ C', D_X5_casesOf N (mh_w h (cz F0 C)) 73 k (1000000001 + u) = some (csV (tl n (C (k + 1))) 0 (pCs (tl n (C (k + 1))) u 6 0), mh_w (rd h (k + 1) (1000000001 + u)) (cz F0 C')) ∧ (∀ a, a ≠ 73 → C' a = C a) := by
  have hT := TS_rd (C := C) (n := n) (h := h) hs hk hu hB
  have e1 := c_begin (F0 := F0) (s := 1000000001 + u) hs N hk hn h60
  have e2 := c_cs (F0 := F0) hT hN 6 N 0 0 (by omega) (by omega) (Nat.zero_le _) (by decide)
  refine ⟨stC (upC C 73 2 n) (pCs (tl n (C (k + 1))) u 6 0).1 (pCs (tl n (C (k + 1))) u 6 0).2.1, ?_, fun a ha => by rw [stC_o ha, upC_o ha]⟩
  unfold D_X5_casesOf
  refine Eq.trans (kO_s hs _ (by decide) (by decide)) ?_
  refine Eq.trans (bind_of e1 _) ?_
  exact e2
theorem evs_cg (hv : ∀ k, k < 4 → vs k = vs' k) : ∀ (cs : List Nat) (st : List Int32), evs vs cs st = evs vs' cs st := by
  intro cs
  induction cs with
  | nil => intro st; rfl
  | cons c cs ih =>
    intro st
    rw [evs_c, evs_c]
    by_cases q : c < 1000
    · rw [if_pos q, if_pos q, ih]
    · rw [if_neg q, if_neg q]
      by_cases q2 : c < 2000
      · rw [if_pos q2, if_pos q2]
        by_cases q3 : c < 1004
        · rw [if_pos q3, if_pos q3, hv _ (by omega), ih]
        · rw [if_neg q3, if_neg q3]
      · rw [if_neg q2, if_neg q2]
        by_cases q3 : c < 2007
        · rw [if_pos q3, if_pos q3]
          match st with
          | [] => rfl
          | [_] => rfl
          | y :: x :: r => exact ih _
        · rw [if_neg q3, if_neg q3]
theorem svT_cg (hv : ∀ k, k < 4 → vs k = vs' k) : ∀ cl, svT vs cl = svT vs' cl := by
  intro cl
  induction cl with
  | nil => rfl
  | cons c r ih => rw [svT, svT, ih]; unfold tvs svl; rw [evs_cg hv, evs_cg hv]
theorem VC_cg (hv : ∀ k, k < 4 → vs k = vs' k) {cl : List (List Nat × List Nat)} (hq : VC vs cl) : VC vs' cl := fun c hc => by
  obtain ⟨⟨v, h1⟩, ws, h2⟩ := hq c hc
  exact ⟨⟨v, fun st => by rw [← evs_cg hv]; exact h1 st⟩, ws, fun st => by rw [← evs_cg hv]; exact h2 st⟩
/-- between two bounds -/
def clp (lo hi : Nat) (v : Int32) : Int32 := if nI lo ≤ v then (if v ≤ nI hi then v else nI hi) else nI lo
theorem clp_n {lo hi : Nat} (h1 : lo ≤ hi) (h2 : hi < 2 ^ 31) (v : Int32) : ∃ n, lo ≤ n ∧ n ≤ hi ∧ clp lo hi v = nI n := by
  unfold clp
  by_cases q : nI lo ≤ v
  · rw [if_pos q]
    by_cases q2 : v ≤ nI hi
    · rw [if_pos q2]
      obtain ⟨n, hn, rfl⟩ := nI_of (Int32.not_lt.mpr (Int32.le_trans (nI_pos' (show lo < 2 ^ 31 by omega)) q))
      exact ⟨n, (nI_leI (by omega) hn).mp q, (nI_leI hn (by omega)).mp q2, rfl⟩
    · rw [if_neg q2]; exact ⟨hi, h1, Nat.le_refl _, rfl⟩
  · rw [if_neg q]; exact ⟨lo, Nat.le_refl _, h1, rfl⟩
theorem c_held {lo hi : Nat} (h1 : lo ≤ hi) (h2 : hi < 2 ^ 31) (N : Nat) (H : mh_H) (v : Int32) : D_X11_held N H v (nI lo) (nI hi) = some (clp lo hi v, H) := by
  unfold D_X11_held clp mh_max mh_min
  congr 2
  have hlh : nI lo ≤ nI hi := (nI_leI (by omega) (by omega)).mpr h1
  by_cases q : nI lo ≤ v
  · rw [if_pos q]
    by_cases q2 : v ≤ nI hi
    · rw [if_pos q2]
      by_cases q3 : v < nI hi
      · rw [if_pos q3]
        by_cases q4 : nI lo < v
        · rw [if_pos q4]
        · rw [if_neg q4]; exact Int32.le_antisymm q (Int32.not_lt.mp q4)
      · rw [if_neg q3]
        have e : v = nI hi := Int32.le_antisymm q2 (Int32.not_lt.mp q3)
        rw [e]
        by_cases q4 : nI lo < nI hi
        · rw [if_pos q4]
        · rw [if_neg q4]; exact Int32.le_antisymm hlh (Int32.not_lt.mp q4)
    · rw [if_neg q2, if_neg (fun e => q2 (Int32.le_of_lt e))]
      by_cases q4 : nI lo < nI hi
      · rw [if_pos q4]
      · rw [if_neg q4]; exact Int32.le_antisymm hlh (Int32.not_lt.mp q4)
  · rw [if_neg q]
    have q1 : v < nI lo := Int32.not_le.mp q
    rw [if_pos (Int32.lt_of_lt_of_le q1 hlh), if_neg (fun e => q (Int32.le_of_lt e))]
theorem m_within (N : Nat) (H : mh_H) (lo hi : Nat) (v : Int32) : D_X12_within N H v (nI lo) (nI hi) = some (clp lo hi v, H) := by
  unfold D_X12_within clp
  by_cases q : nI lo ≤ v
  · rw [if_pos q, if_pos q]
    by_cases q2 : v ≤ nI hi
    · rw [if_pos q2, if_pos q2]
    · rw [if_neg q2, if_neg q2]
  · rw [if_neg q, if_neg q]
/-- the reference runs a text of a use -/
theorem m_says {F : F2} {B : Nat → Nat} (hs : Sh h) (hN : 10000 ≤ N) (hu : u < 2) (hX : TXt u n B Z) (hV : VC vs (pCs (tl n B) u 6 0).2.2) (hv : ∀ j, j < 4 → F 92 j = nI (vs j)) : ∃ F', D_X12_says N (mh_w h (gz F Z)) 83 (nI u) = some (svT vs (pCs (tl n B) u 6 0).2.2, mh_w h (gz F' Z)) ∧ ∀ a, a ≠ 93 → F' a = F a := by
  obtain ⟨h1, h2, h3, h4, h5, h6, h7, h8, h9⟩ := hX
  obtain ⟨F', e1, e2⟩ := m_says14 (Z := Z) (t := 7556 + 77 * u) hs hN (by omega) h5 h6 (pCs (tl n B) u 6 0).2.2 N 0 0 F (by omega) (by omega) (fun j hj => by rw [show 7556 + 77 * u + 1 + 2 * 0 + j = 7557 + 77 * u + j by omega]; exact h7 j hj) (fun j hj => by rw [show 7556 + 77 * u + 13 + (0 + j) = 7569 + 77 * u + j by omega]; exact h9 j hj) (by omega) hV hv
  refine ⟨F', ?_, e2⟩
  unfold D_X12_says
  rw [lit, lit, nI_mul, nI_add]
  exact e1
end T09
