/-! a text of a use: what both told of it -/
section T09
variable {h : mh_H} {F0 : F2} {C : C2} {Z : Z1} {T : List Nat} {u N p f o b n k : Nat} {vs vs' : Nat → Nat}
def tl (n : Nat) (B : Nat → Nat) : List Nat := (List.range n).map B
theorem tl_len (n : Nat) (B : Nat → Nat) : (tl n B).length = n := by
  unfold tl
  rw [List.length_map, List.length_range]
theorem tl_ch {n : Nat} {B : Nat → Nat} {i : Nat} (hi : i < n) : chL (tl n B) i = B i := by
  unfold chL tl
  rw [List.getD_eq_getElem?_getD, List.getElem?_map, List.getElem?_range hi]
  rfl
theorem tl_cg {n : Nat} {B B' : Nat → Nat} (h : ∀ i, i < n → B' i = B i) : tl n B' = tl n B := by
  unfold tl
  exact List.map_congr_left fun i hi => h i (List.mem_range.mp hi)
/-- a text without a fault: its cases can be run, the class's row has their steps, the reference's their codes -/
def TXt (u n : Nat) (B : Nat → Nat) (Z : Z1) : Prop := ∃ cl : List (List Nat × List Nat), (∀ vs, V2 vs cl) ∧ (u = 1 → ∀ c ∈ cl, NC c.1 ∧ NC c.2) ∧ n ≤ 61 ∧ (stA cl).length = n ∧ (∀ j, j < n → B j = (stA cl).getD j 0) ∧ Z (7556 + 77 * u) = cl.length ∧ cl.length ≤ 6 ∧ (∀ i, i < 2 * cl.length → Z (7557 + 77 * u + i) = (encL 0 cl).getD i 0) ∧ (cat cl).length ≤ 60 ∧ ∀ i, i < (cat cl).length → Z (7569 + 77 * u + i) = (cat cl).getD i 0
theorem TXt_c : TXc TXt := by
  intro u n B Z Z' hu hZ ⟨cl, h1, h2, h3, h4, h5, h6, h7, h8, h9, h10⟩
  exact ⟨cl, h1, h2, h3, h4, h5, by rw [hZ _ (by omega) (by omega)]; exact h6, h7, fun i hi => by rw [hZ _ (by omega) (by omega)]; exact h8 i hi, h9, fun i hi => by rw [hZ _ (by omega) (by omega)]; exact h10 i hi⟩
theorem TXt_d : TXd TXt := by
  intro u n B B' Z hu hB ⟨cl, h1, h2, h3, h4, h5, h6⟩
  exact ⟨cl, h1, h2, h3, h4, fun j hj => by rw [hB j hj]; exact h5 j hj, h6⟩
theorem V2.vc {cl : List (List Nat × List Nat)} (hq : V2 vs cl) : VC vs cl := fun c hc => by
  obtain ⟨⟨v, h1⟩, ws, h2⟩ := hq c hc
  exact ⟨⟨v, h1.1⟩, ws, h2.1⟩
/-- the reader's references alone have changed -/
def rd (h : mh_H) (s : Nat) : mh_H := mh_sr (mh_sr h 73 4 (some 24)) 73 6 (some s)
theorem Sh_sr (hs : Sh h) {j : Nat} {x : Option Nat} (hj : Rd 73 j = none) : Sh (mh_sr h 73 j x) := by
  refine ⟨hs.1, hs.2.1, fun k i r e => ?_⟩
  show (if k = 73 ∧ i = j then x else mh_r h k i) = some r
  rw [if_neg (fun q => by rw [q.1, q.2, hj] at e; cases e)]
  exact hs.2.2 k i r e
theorem Sh_rd (hs : Sh h) (s : Nat) : Sh (rd h s) := Sh_sr (Sh_sr hs (by decide)) (by decide)
theorem pR_73 (hs : Sh h) (F : F2) (j x : Nat) : pR (mh_w h F) 5 73 j x = some (mh_w (mh_sr h 73 j (some x)) F) := if_pos ⟨Nat.lt_of_lt_of_le (by decide) hs.1, ((hs.2.1 73 (by decide)).1).trans (by decide)⟩
theorem stC_of : upC (upC (upC C 73 7 p) 73 8 f) 75 1 0 = stC C p f [] := by
  funext a j
  unfold upC stC
  by_cases h1 : a = 73
  · rw [if_neg (by omega), if_pos h1]
    by_cases h2 : j = 7
    · rw [if_neg (by omega), if_pos ⟨h1, h2⟩, if_pos h2]
    · rw [if_neg h2]
      by_cases h3 : j = 8
      · rw [if_pos ⟨h1, h3⟩, if_pos h3]
      · rw [if_neg (fun q => h3 q.2), if_neg (fun q => h2 q.2), if_neg h3]
  rw [if_neg h1]
  by_cases h2 : a = 75
  · rw [if_pos h2]
    by_cases h3 : j = 1
    · rw [if_pos ⟨h2, h3⟩, if_pos h3]
      rfl
    · rw [if_neg (fun q => h3 q.2), if_neg (by omega), if_neg (by omega), if_neg h3]
  rw [if_neg (fun q => h2 q.1), if_neg (fun q => h1 q.1), if_neg (fun q => h1 q.1), if_neg h2]
  by_cases h3 : a = 76
  · rw [if_pos h3, if_neg (show ¬ j < ([] : List Nat).length from Nat.not_lt_zero _)]
  · rw [if_neg h3]
theorem c_begin (hs : Sh h) (N : Nat) {s : Nat} (hn : C 23 1 = n) (h60 : n ≤ 60) : D_X5_begin N (mh_w h (cz F0 C)) 73 23 s = some (mh_w (rd h s) (cz F0 (stC (upC C 73 5 n) 0 0 []))) := by
  have hs1 : Sh (mh_sr h 73 4 (some 24)) := Sh_sr hs (by decide)
  have hs2 : Sh (mh_sr (mh_sr h 73 4 (some 24)) 73 6 (some s)) := Sh_sr hs1 (by decide)
  have g1 : ∀ {h' : mh_H}, Sh h' → gI (mh_w h' (cz F0 C)) 6 23 1 = some (nI n) := fun hs' => by
    rw [← hn]
    exact gi_23 hs' _ _ _
  unfold D_X5_begin
  rw [gr_23_0 hs, some_bind, pR_73 hs, some_bind, g1 hs1, some_bind, gr_23_0 hs1, some_bind, al_24 hs1, some_bind, min_n (by omega) (by decide), Nat.min_eq_left h60, pi_73 hs1, some_bind, pR_73 hs1, some_bind]
  refine Eq.trans (bind_of (pi_73 hs2 _ _ 7 0) _) ?_
  refine Eq.trans (bind_of (pb_73 hs2 _ _ (x := 0) (by decide)) _) ?_
  refine Eq.trans (bind_of (gr_73_1 hs2 _) _) ?_
  refine Eq.trans (bind_of (pi_75 hs2 _ _ 1 0) _) ?_
  rw [stC_of]
  rfl
theorem TS_rd (hs : Sh h) (hu : u < 2) (hB : BY (tl n (C 24))) : TS (rd h (1000000001 + u)) (upC C 73 5 n) (tl n (C 24)) u := by
  refine ⟨Sh_rd hs _, rfl, rfl, hu, ?_, hB, fun i hi => ?_⟩
  · rw [upC_s, tl_len]
  · rw [tl_len] at hi
    rw [upC_o (by decide), tl_ch hi]
theorem c_casesOf (hs : Sh h) (hN : 10000 ≤ N) (hu : u < 2) (hn : C 23 1 = n) (h60 : n ≤ 60) (hB : BY (tl n (C 24))) : ∃ C', D_X5_casesOf N (mh_w h (cz F0 C)) 73 23 (1000000001 + u) = some (csV (tl n (C 24)) 0 (pCs (tl n (C 24)) u 6 0), mh_w (rd h (1000000001 + u)) (cz F0 C')) ∧ (∀ a, a ≠ 73 → a ≠ 75 → a ≠ 76 → C' a = C a) ∧ ((pCs (tl n (C 24)) u 6 0).2.1 = 0 → C' 75 1 = (stA (pCs (tl n (C 24)) u 6 0).2.2).length ∧ (stA (pCs (tl n (C 24)) u 6 0).2.2).length ≤ 61 ∧ ∀ j, j < (stA (pCs (tl n (C 24)) u 6 0).2.2).length → C' 76 j = (stA (pCs (tl n (C 24)) u 6 0).2.2).getD j 0) := by
  have hT := TS_rd (C := C) (n := n) (h := h) hs hu hB
  have e1 := c_begin (F0 := F0) (s := 1000000001 + u) hs N hn h60
  obtain ⟨S, s1, s2, e2⟩ := c_cs (F0 := F0) hT hN 6 N 0 0 [] (by omega) (by omega) (Nat.zero_le _) (by decide) (Nat.le_refl _)
  refine ⟨stC (upC C 73 5 n) (pCs (tl n (C 24)) u 6 0).1 (pCs (tl n (C 24)) u 6 0).2.1 S, ?_, fun a a1 a2 a3 => by rw [stC_o a1 a2 a3, upC_o a1], fun e => ?_⟩
  · unfold D_X5_casesOf
    refine Eq.trans (kO_s hs _ (by decide) (by decide)) ?_
    refine Eq.trans (bind_of e1 _) ?_
    exact e2
  · have es := s2 e
    rw [List.nil_append] at es
    rw [← es]
    exact ⟨rfl, s1, fun j hj => stC_76 hj⟩
theorem evs_cg (hv : ∀ k, k < 4 → vs k = vs' k) : ∀ (cs : List Nat) (st : List Int32), evs vs cs st = evs vs' cs st := by
  intro cs
  induction cs with
  | nil => intro st; rfl
  | cons c cs ih =>
    intro st
    rw [evs_c, evs_c]
    by_cases q : c < 1000
    · rw [if_pos q, if_pos q, ih]
    · rw [if_neg q, if_neg q]
      by_cases q2 : c < 2000
      · rw [if_pos q2, if_pos q2]
        by_cases q3 : c < 1004
        · rw [if_pos q3, if_pos q3, hv _ (by omega), ih]
        · rw [if_neg q3, if_neg q3]
      · rw [if_neg q2, if_neg q2]
        by_cases q3 : c < 2007
        · rw [if_pos q3, if_pos q3]
          match st with
          | [] => rfl
          | [_] => rfl
          | y :: x :: r => exact ih _
        · rw [if_neg q3, if_neg q3]
theorem svT_cg (hv : ∀ k, k < 4 → vs k = vs' k) : ∀ cl, svT vs cl = svT vs' cl := by
  intro cl
  induction cl with
  | nil => rfl
  | cons c r ih => rw [svT, svT, ih]; unfold tvs svl; rw [evs_cg hv, evs_cg hv]
theorem VC_cg (hv : ∀ k, k < 4 → vs k = vs' k) {cl : List (List Nat × List Nat)} (hq : VC vs cl) : VC vs' cl := fun c hc => by
  obtain ⟨⟨v, h1⟩, ws, h2⟩ := hq c hc
  exact ⟨⟨v, fun st => by rw [← evs_cg hv]; exact h1 st⟩, ws, fun st => by rw [← evs_cg hv]; exact h2 st⟩
/-- between two bounds -/
def clp (lo hi : Nat) (v : Int32) : Int32 := if nI lo ≤ v then (if v ≤ nI hi then v else nI hi) else nI lo
theorem clp_n {lo hi : Nat} (h1 : lo ≤ hi) (h2 : hi < 2 ^ 31) (v : Int32) : ∃ n, lo ≤ n ∧ n ≤ hi ∧ clp lo hi v = nI n := by
  unfold clp
  by_cases q : nI lo ≤ v
  · rw [if_pos q]
    by_cases q2 : v ≤ nI hi
    · rw [if_pos q2]
      obtain ⟨n, hn, rfl⟩ := nI_of (Int32.not_lt.mpr (Int32.le_trans (nI_pos' (show lo < 2 ^ 31 by omega)) q))
      exact ⟨n, (nI_leI (by omega) hn).mp q, (nI_leI hn (by omega)).mp q2, rfl⟩
    · rw [if_neg q2]; exact ⟨hi, h1, Nat.le_refl _, rfl⟩
  · rw [if_neg q]; exact ⟨lo, Nat.le_refl _, h1, rfl⟩
theorem c_held {lo hi : Nat} (h1 : lo ≤ hi) (h2 : hi < 2 ^ 31) (N : Nat) (H : mh_H) (v : Int32) : D_X11_held N H v (nI lo) (nI hi) = some (clp lo hi v, H) := by
  unfold D_X11_held clp mh_max mh_min
  congr 2
  have hlh : nI lo ≤ nI hi := (nI_leI (by omega) (by omega)).mpr h1
  by_cases q : nI lo ≤ v
  · rw [if_pos q]
    by_cases q2 : v ≤ nI hi
    · rw [if_pos q2]
      by_cases q3 : v < nI hi
      · rw [if_pos q3]
        by_cases q4 : nI lo < v
        · rw [if_pos q4]
        · rw [if_neg q4]; exact Int32.le_antisymm q (Int32.not_lt.mp q4)
      · rw [if_neg q3]
        have e : v = nI hi := Int32.le_antisymm q2 (Int32.not_lt.mp q3)
        rw [e]
        by_cases q4 : nI lo < nI hi
        · rw [if_pos q4]
        · rw [if_neg q4]; exact Int32.le_antisymm hlh (Int32.not_lt.mp q4)
    · rw [if_neg q2, if_neg (fun e => q2 (Int32.le_of_lt e))]
      by_cases q4 : nI lo < nI hi
      · rw [if_pos q4]
      · rw [if_neg q4]; exact Int32.le_antisymm hlh (Int32.not_lt.mp q4)
  · rw [if_neg q]
    have q1 : v < nI lo := Int32.not_le.mp q
    rw [if_pos (Int32.lt_of_lt_of_le q1 hlh), if_neg (fun e => q (Int32.le_of_lt e))]
theorem m_within (N : Nat) (H : mh_H) (lo hi : Nat) (v : Int32) : D_X12_within N H v (nI lo) (nI hi) = some (clp lo hi v, H) := by
  unfold D_X12_within clp
  by_cases q : nI lo ≤ v
  · rw [if_pos q, if_pos q]
    by_cases q2 : v ≤ nI hi
    · rw [if_pos q2, if_pos q2]
    · rw [if_neg q2, if_neg q2]
  · rw [if_neg q, if_neg q]
/-- the reference runs a text of a use -/
theorem m_says {F : F2} {cl : List (List Nat × List Nat)} (hs : Sh h) (hN : 10000 ≤ N) (hu : u < 2) (h5 : Z (7556 + 77 * u) = cl.length) (h6 : cl.length ≤ 6) (h7 : ∀ i, i < 2 * cl.length → Z (7557 + 77 * u + i) = (encL 0 cl).getD i 0) (h8 : (cat cl).length ≤ 60) (h9 : ∀ i, i < (cat cl).length → Z (7569 + 77 * u + i) = (cat cl).getD i 0) (hV : VC vs cl) (hv : ∀ j, j < 4 → F 95 j = nI (vs j)) : ∃ F', D_X12_says N (mh_w h (gz F Z)) 86 (nI u) = some (svT vs cl, mh_w h (gz F' Z)) ∧ ∀ a, a ≠ 96 → F' a = F a := by
  obtain ⟨F', e1, e2⟩ := m_says14 (Z := Z) (t := 7556 + 77 * u) hs hN (by omega) h5 h6 cl N 0 0 F (by omega) (by omega) (fun j hj => by rw [show 7556 + 77 * u + 1 + 2 * 0 + j = 7557 + 77 * u + j by omega]; exact h7 j hj) (fun j hj => by rw [show 7556 + 77 * u + 13 + (0 + j) = 7569 + 77 * u + j by omega]; exact h9 j hj) (by omega) hV hv
  refine ⟨F', ?_, e2⟩
  unfold D_X12_says
  rw [lit, lit, nI_mul, nI_add]
  exact e1
end T09
