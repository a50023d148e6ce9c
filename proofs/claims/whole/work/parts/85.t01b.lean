/-! steps of the class beside codes of the reference -/
section T01B
def sgn (o : Nat) : Nat := if o = 0 then 43 else if o = 1 then 45 else if o = 2 then 42 else if o = 3 then 47 else if o = 4 then 60 else if o = 5 then 61 else 62
/-- a number below 0, as a natural number -/
def ngN (s : Nat) : Nat := 4294967296 - s
theorem nI_ng : ∀ s, s < 256 → nI (ngN s) = -nI s := by decide +kernel
theorem ng_lt0 : ∀ s, s < 256 → 1 ≤ s → (-nI s < nI 0) := by decide +kernel
theorem ng_ng (x : Int32) : - -x = x := Int32.neg_neg
theorem ng_ne {s t : Nat} (hs : s < 256) (ht : t < 256) (hq : s ≠ t) : (-nI s = -nI t) = False := eq_false fun e => by
  have e2 := congrArg (fun x : Int32 => -x) e
  rw [ng_ng, ng_ng] at e2
  exact hq ((nI_eq (by omega) (by omega)).mp e2)
/-- the steps of a code: a sign is below 0, the end of a test behind a comparison -/
def stp (c : Nat) : List Nat := if c < 2000 then [c] else if c < 2004 then [ngN (sgn (c - 2000))] else [ngN (sgn (c - 2000)), ngN 38]
def stL : List Nat → List Nat
  | [] => []
  | c :: r => stp c ++ stL r
def stA : List (List Nat × List Nat) → List Nat
  | [] => []
  | c :: r => stL c.1 ++ stL c.2 ++ [ngN 59] ++ stA r
theorem stL_app : ∀ a b, stL (a ++ b) = stL a ++ stL b := by
  intro a b
  induction a with
  | nil => rfl
  | cons c r ih => rw [List.cons_append, stL, stL, ih, List.append_assoc]
theorem stL_1 (c : Nat) : stL [c] = stp c := by
  rw [stL, stL, List.append_nil]
theorem stp_lo {c : Nat} (hc : c < 2000) : stp c = [c] := if_pos hc
theorem stp_op {o : Nat} (ho : o < 4) : stp (2000 + o) = [ngN (sgn o)] := by
  unfold stp
  rw [if_neg (by omega), if_pos (by omega), show 2000 + o - 2000 = o by omega]
theorem stp_cm {o : Nat} (ho : 4 ≤ o) : stp (2000 + o) = [ngN (sgn o), ngN 38] := by
  unfold stp
  rw [if_neg (by omega), if_neg (by omega), show 2000 + o - 2000 = o by omega]
theorem sgn_b (o : Nat) : 42 ≤ sgn o ∧ sgn o ≤ 62 ∧ sgn o ≠ 59 := by
  unfold sgn
  by_cases h0 : o = 0
  · rw [if_pos h0]; decide
  rw [if_neg h0]
  by_cases h1 : o = 1
  · rw [if_pos h1]; decide
  rw [if_neg h1]
  by_cases h2 : o = 2
  · rw [if_pos h2]; decide
  rw [if_neg h2]
  by_cases h3 : o = 3
  · rw [if_pos h3]; decide
  rw [if_neg h3]
  by_cases h4 : o = 4
  · rw [if_pos h4]; decide
  rw [if_neg h4]
  by_cases h5 : o = 5
  · rw [if_pos h5]; decide
  rw [if_neg h5]; decide
/-- what holds so far -/
def hb2 (hb : Nat) (w : Int32) : Nat := if hb = 0 then 0 else if w = nI 0 then 0 else 1
theorem hb2_le (hb : Nat) (w : Int32) : hb2 hb w ≤ 1 := by
  unfold hb2
  by_cases q : hb = 0
  · rw [if_pos q]; omega
  · rw [if_neg q]
    by_cases q2 : w = nI 0
    · rw [if_pos q2]; omega
    · rw [if_neg q2]; omega
theorem hb2_1 {hb : Nat} (h1 : hb ≤ 1) (w : Int32) : hb2 hb w = 1 ↔ hb = 1 ∧ w ≠ nI 0 := by
  unfold hb2
  by_cases q : hb = 0
  · rw [if_pos q]; exact ⟨fun e => (by cases e), fun e => by omega⟩
  · rw [if_neg q]
    by_cases q2 : w = nI 0
    · rw [if_pos q2]; exact ⟨fun e => (by cases e), fun e => absurd q2 e.2⟩
    · rw [if_neg q2]; exact ⟨fun _ => ⟨by omega, q2⟩, fun _ => rfl⟩
/-- what the class does with codes: a row of values, the last one first, and what holds so far -/
def rnC (vs : Nat → Nat) : List Nat → List Int32 → Nat → Option (List Int32 × Nat)
  | [], st, hb => some (st, hb)
  | c :: cs, st, hb => if c < 1000 then rnC vs cs (nI c :: st) hb else if c < 2000 then (if c < 1004 then rnC vs cs (nI (vs (c - 1000)) :: st) hb else none) else if c < 2004 then (match st with
    | y :: x :: r => rnC vs cs (tw (c - 2000) x y :: r) hb
    | _ => none) else if c < 2007 then (match st with
    | y :: x :: r => rnC vs cs r (hb2 hb (tw (c - 2000) x y))
    | _ => none) else none
theorem rnC_c (vs : Nat → Nat) (c : Nat) (cs : List Nat) (st : List Int32) (hb : Nat) : rnC vs (c :: cs) st hb = (if c < 1000 then rnC vs cs (nI c :: st) hb else if c < 2000 then (if c < 1004 then rnC vs cs (nI (vs (c - 1000)) :: st) hb else none) else if c < 2004 then (match st with
    | y :: x :: r => rnC vs cs (tw (c - 2000) x y :: r) hb
    | _ => none) else if c < 2007 then (match st with
    | y :: x :: r => rnC vs cs r (hb2 hb (tw (c - 2000) x y))
    | _ => none) else none) := by
  first
  | rfl
  | rw [rnC.eq_def]
theorem rnC_app (vs : Nat → Nat) : ∀ (a b : List Nat) (st st' : List Int32) (hb hb' : Nat), rnC vs a st hb = some (st', hb') → rnC vs (a ++ b) st hb = rnC vs b st' hb' := by
  intro a
  induction a with
  | nil => intro b st st' hb hb' h; cases h; rfl
  | cons c cs ih =>
    intro b st st' hb hb' h
    rw [List.cons_append]
    rw [rnC_c] at h ⊢
    by_cases q : c < 1000
    · rw [if_pos q] at h ⊢; exact ih b _ _ _ _ h
    · rw [if_neg q] at h ⊢
      by_cases q2 : c < 2000
      · rw [if_pos q2] at h ⊢
        by_cases q3 : c < 1004
        · rw [if_pos q3] at h ⊢; exact ih b _ _ _ _ h
        · rw [if_neg q3] at h; cases h
      · rw [if_neg q2] at h ⊢
        by_cases q3 : c < 2004
        · rw [if_pos q3] at h ⊢
          match st, h with
          | y :: x :: r, h => exact ih b _ _ _ _ h
        · rw [if_neg q3] at h ⊢
          by_cases q4 : c < 2007
          · rw [if_pos q4] at h ⊢
            match st, h with
            | y :: x :: r, h => exact ih b _ _ _ _ h
          · rw [if_neg q4] at h; cases h
/-- codes that push one value, in both -/
def W2 (vs : Nat → Nat) (cs : List Nat) (v : Int32) : Prop := WV vs cs v ∧ ∀ st hb, rnC vs cs st hb = some (v :: st, hb)
/-- codes of a test -/
def W3 (vs : Nat → Nat) (cs : List Nat) (w : Int32) : Prop := WV vs cs w ∧ ∀ st hb, rnC vs cs st hb = some (st, hb2 hb w)
theorem W2_num (vs : Nat → Nat) {c : Nat} (hc : c < 1000) : W2 vs [c] (nI c) := ⟨WV_num vs hc, fun st hb => by
  rw [rnC_c, if_pos hc]
  rfl⟩
theorem W2_nam (vs : Nat → Nat) {k : Nat} (hk : k < 4) : W2 vs [1000 + k] (nI (vs k)) := ⟨WV_nam vs hk, fun st hb => by
  rw [rnC_c, if_neg (by omega), if_pos (by omega), if_pos (by omega), show 1000 + k - 1000 = k by omega]
  rfl⟩
theorem W2_two {vs : Nat → Nat} {a b : List Nat} {x y : Int32} {o : Nat} (ho : o < 4) (ha : W2 vs a x) (hb : W2 vs b y) : W2 vs (a ++ b ++ [2000 + o]) (tw o x y) := ⟨WV_two (by omega) ha.1 hb.1, fun st hh => by
  rw [List.append_assoc, rnC_app vs a _ _ _ _ _ (ha.2 st hh), rnC_app vs b _ _ _ _ _ (hb.2 _ hh)]
  rw [rnC_c, if_neg (by omega), if_neg (by omega), if_pos (by omega), show 2000 + o - 2000 = o by omega]
  rfl⟩
theorem W3_two {vs : Nat → Nat} {a b : List Nat} {x y : Int32} {o : Nat} (h4 : 4 ≤ o) (ho : o < 7) (ha : W2 vs a x) (hb : W2 vs b y) : W3 vs (a ++ b ++ [2000 + o]) (tw o x y) := ⟨WV_two ho ha.1 hb.1, fun st hh => by
  rw [List.append_assoc, rnC_app vs a _ _ _ _ _ (ha.2 st hh), rnC_app vs b _ _ _ _ _ (hb.2 _ hh)]
  rw [rnC_c, if_neg (by omega), if_neg (by omega), if_neg (by omega), if_pos (by omega), show 2000 + o - 2000 = o by omega]
  rfl⟩
/-- codes that push a row of values -/
def TV (vs : Nat → Nat) (cs : List Nat) (ws : List Int32) : Prop := ∀ st, evs vs cs st = some (ws ++ st)
theorem TV_app {vs : Nat → Nat} {a b : List Nat} {x y : List Int32} (ha : TV vs a x) (hb : TV vs b y) : TV vs (a ++ b) (y ++ x) := fun st => by
  rw [evs_app vs a b _ _ (ha st), hb, List.append_assoc]
theorem TV_1 {vs : Nat → Nat} {a : List Nat} {x : Int32} (ha : WV vs a x) : TV vs a [x] := ha
/-- codes of tests, in both -/
def T2 (vs : Nat → Nat) (cs : List Nat) (ws : List Int32) : Prop := TV vs cs ws ∧ ∀ st hb, hb ≤ 1 → ∃ hb', hb' ≤ 1 ∧ rnC vs cs st hb = some (st, hb') ∧ (hb' = 1 ↔ hb = 1 ∧ ∀ w ∈ ws, w ≠ nI 0)
theorem T2_nil (vs : Nat → Nat) : T2 vs [] [] := ⟨fun st => rfl, fun st hb h1 => ⟨hb, h1, rfl, ⟨fun e => ⟨e, fun w hw => absurd hw (List.not_mem_nil)⟩, fun e => e.1⟩⟩⟩
theorem T2_1 {vs : Nat → Nat} {a : List Nat} {w : Int32} (ha : W3 vs a w) : T2 vs a [w] := ⟨TV_1 ha.1, fun st hb h1 => ⟨hb2 hb w, hb2_le _ _, ha.2 st hb, by
  rw [hb2_1 h1]
  constructor
  · rintro ⟨a, b⟩
    exact ⟨a, fun w' hw' => by rw [List.mem_singleton.mp hw']; exact b⟩
  · rintro ⟨a, c⟩
    exact ⟨a, c w (List.mem_singleton.mpr rfl)⟩⟩⟩
theorem T2_app {vs : Nat → Nat} {a b : List Nat} {x y : List Int32} (ha : T2 vs a x) (hb : T2 vs b y) : T2 vs (a ++ b) (y ++ x) := ⟨TV_app ha.1 hb.1, fun st h0 h1 => by
  obtain ⟨h2, q1, q2, q3⟩ := ha.2 st h0 h1
  obtain ⟨h3, r1, r2, r3⟩ := hb.2 st h2 q1
  refine ⟨h3, r1, by rw [rnC_app vs a _ _ _ _ _ q2]; exact r2, ?_⟩
  rw [r3, q3]
  constructor
  · rintro ⟨⟨e1, e2⟩, e3⟩
    refine ⟨e1, fun w hw => ?_⟩
    rcases List.mem_append.mp hw with hw | hw
    · exact e3 w hw
    · exact e2 w hw
  · rintro ⟨e1, e2⟩
    exact ⟨⟨e1, fun w hw => e2 w (List.mem_append_right _ hw)⟩, fun w hw => e2 w (List.mem_append_left _ hw)⟩⟩
/-- what a text tells -/
def tvs (vs : Nat → Nat) (cs : List Nat) : List Int32 := (evs vs cs []).getD []
def svl (vs : Nat → Nat) (cs : List Nat) : Int32 := ((evs vs cs []).getD []).headD (nI 0)
def svT (vs : Nat → Nat) : List (List Nat × List Nat) → Int32
  | [] => nI 0
  | c :: r => if (tvs vs c.2).all (fun w => w != nI 0) = true then svl vs c.1 else svT vs r
theorem all_T {ws : List Int32} : ws.all (fun w => w != nI 0) = true ↔ ∀ w ∈ ws, w ≠ nI 0 := by
  rw [List.all_eq_true]
  exact ⟨fun q w hw => by have := q w hw; exact bne_iff_ne.mp this, fun q w hw => bne_iff_ne.mpr (q w hw)⟩
theorem TV_tvs {vs : Nat → Nat} {cs : List Nat} {ws : List Int32} (hq : TV vs cs ws) : tvs vs cs = ws := by
  unfold tvs
  rw [hq [], List.append_nil]
  rfl
theorem WV_svl {vs : Nat → Nat} {cs : List Nat} {v : Int32} (hq : WV vs cs v) : svl vs cs = v := by
  unfold svl
  rw [hq []]
  rfl
end T01B
