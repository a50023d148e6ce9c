/-! TEXTS: a plain parser, and both readers beside it -/
section T01
/-- the byte at a place of a text; 256 beyond its end -/
def chL (T : List Nat) (p : Nat) : Nat := T.getD p 256
def nxI (T : List Nat) (p : Nat) : Int32 := if p < T.length then nI (chL T p) else -nI 1
abbrev RR : Type := Nat × Nat × List Nat
/-- the number of a name; 9: none -/
def nam (u c : Nat) : Nat := if u = 0 then (if c = 104 then 0 else if c = 100 then 1 else if c = 107 then 2 else if c = 102 then 3 else 9) else (if c = 119 then 0 else if c = 99 then 1 else if c = 115 then 2 else 9)
def dig (c : Nat) : Prop := 48 ≤ c ∧ c ≤ 57
def nmb (T : List Nat) : Nat → Nat → Nat → Nat × Nat
  | 0, p, v => (p, v)
  | k + 1, p, v => if 48 ≤ chL T p ∧ chL T p ≤ 57 then nmb T k (p + 1) (v * 10 + chL T p - 48) else (p, v)
def opT (c : Nat) : Nat := if c = 42 then 2 else if c = 47 then 3 else 9
def opS (c : Nat) : Nat := if c = 43 then 0 else if c = 45 then 1 else 9
def opC (c : Nat) : Nat := if c = 60 then 4 else if c = 61 then 5 else if c = 62 then 6 else 9
/-- one thing: a number, a name, or a sum in brackets -/
def pOne (T : List Nat) (u : Nat) (g : Option (Nat → RR)) (p : Nat) : RR :=
  if 48 ≤ chL T p ∧ chL T p ≤ 57 then ((nmb T 3 p 0).1, 0, [(nmb T 3 p 0).2])
  else if nam u (chL T p) < 9 then (p + 1, 0, [1000 + nam u (chL T p)])
  else if chL T p = 40 then (match g with
    | none => (p, 1, [])
    | some g => if (g (p + 1)).2.1 = 0 ∧ chL T (g (p + 1)).1 = 41 then ((g (p + 1)).1 + 1, 0, (g (p + 1)).2.2) else ((g (p + 1)).1, 1, (g (p + 1)).2.2))
  else (p, 1, [])
def pLn (r s : RR) (o : Nat) : RR := (s.1, s.2.1, r.2.2 ++ s.2.2 ++ (if s.2.1 = 0 then [2000 + o] else []))
/-- things with signs between them -/
def pLp (T : List Nat) (op : Nat → Nat) (sub : Nat → RR) : Nat → RR → RR
  | 0, r => r
  | m + 1, r => if r.2.1 = 0 ∧ op (chL T r.1) < 9 then pLp T op sub m (pLn r (sub (r.1 + 1)) (op (chL T r.1))) else r
def pTm (T : List Nat) (u : Nat) (g : Option (Nat → RR)) (p : Nat) : RR := pLp T opT (pOne T u g) 60 (pOne T u g p)
def pS1 (T : List Nat) (u : Nat) (g : Option (Nat → RR)) (p : Nat) : RR := pLp T opS (pTm T u g) 60 (pTm T u g p)
def pSm (T : List Nat) (u : Nat) : Nat → Nat → RR
  | 0, p => pS1 T u none p
  | d + 1, p => pS1 T u (some (pSm T u d)) p
/-- all bytes are bytes -/
def BY (T : List Nat) : Prop := T.length ≤ 60 ∧ ∀ p, p < T.length → chL T p < 256
theorem chL_end {T : List Nat} {p : Nat} (h : T.length ≤ p) : chL T p = 256 := by
  unfold chL
  rw [List.getD_eq_getElem?_getD, List.getElem?_eq_none h]
  rfl
theorem chL_lt {T : List Nat} {p : Nat} (h : chL T p < 256) : p < T.length := by
  by_cases q : p < T.length
  · exact q
  · rw [chL_end (by omega)] at h; omega
theorem nam_lt {u c : Nat} (h : nam u c < 9) : nam u c < 4 ∧ c < 256 ∧ ¬ (48 ≤ c ∧ c ≤ 57) ∧ c ≠ 40 := by
  unfold nam at h ⊢
  by_cases hu : u = 0
  · rw [if_pos hu] at h ⊢
    by_cases a : c = 104
    · rw [if_pos a]; omega
    · rw [if_neg a] at h ⊢
      by_cases b : c = 100
      · rw [if_pos b]; omega
      · rw [if_neg b] at h ⊢
        by_cases d : c = 107
        · rw [if_pos d]; omega
        · rw [if_neg d] at h ⊢
          by_cases e : c = 102
          · rw [if_pos e]; omega
          · rw [if_neg e] at h; omega
  · rw [if_neg hu] at h ⊢
    by_cases a : c = 119
    · rw [if_pos a]; omega
    · rw [if_neg a] at h ⊢
      by_cases b : c = 99
      · rw [if_pos b]; omega
      · rw [if_neg b] at h ⊢
        by_cases d : c = 115
        · rw [if_pos d]; omega
        · rw [if_neg d] at h; omega
/-- a part of the parser goes on, stays within, and makes no more codes than it takes bytes -/
def GD (T : List Nat) (g : Nat → RR) : Prop := ∀ p, p ≤ T.length → p ≤ (g p).1 ∧ (g p).1 ≤ T.length ∧ (g p).2.1 ≤ 1 ∧ (g p).2.2.length + p ≤ (g p).1
theorem nmb_gd (T : List Nat) : ∀ k p v, p ≤ T.length → v * 10 ^ k + 10 ^ k ≤ 1000 → p ≤ (nmb T k p v).1 ∧ (nmb T k p v).1 ≤ T.length ∧ (nmb T k p v).2 < 1000 := by
  intro k
  induction k with
  | zero => intro p v hp hv; unfold nmb; simp only [Nat.pow_zero, Nat.mul_one] at hv; exact ⟨Nat.le_refl _, hp, by dsimp only; omega⟩
  | succ k ih =>
    intro p v hp hv
    unfold nmb
    by_cases q : 48 ≤ chL T p ∧ chL T p ≤ 57
    · rw [if_pos q]
      have hl := chL_lt (T := T) (p := p) (by omega)
      have hpk : 0 < 10 ^ k := Nat.pow_pos (by decide)
      have hv2 : (v * 10 + chL T p - 48) * 10 ^ k + 10 ^ k ≤ 1000 := by
        have h1 : (v * 10 + chL T p - 48) + 1 ≤ v * 10 + 10 := by omega
        have h2 : ((v * 10 + chL T p - 48) + 1) * 10 ^ k ≤ (v * 10 + 10) * 10 ^ k := Nat.mul_le_mul_right _ h1
        rw [Nat.add_mul, Nat.one_mul] at h2
        have h3 : (v * 10 + 10) * 10 ^ k = v * 10 ^ (k + 1) + 10 ^ (k + 1) := by
          rw [Nat.pow_succ, Nat.add_mul, Nat.mul_assoc, Nat.mul_comm (10 ^ k) 10]
        omega
      obtain ⟨a1, a2, a3⟩ := ih (p + 1) (v * 10 + chL T p - 48) (by omega) hv2
      exact ⟨by omega, a2, a3⟩
    · rw [if_neg q]
      have hpk : 0 < 10 ^ (k + 1) := Nat.pow_pos (by decide)
      have : v * 1 ≤ v * 10 ^ (k + 1) := Nat.mul_le_mul_left v hpk
      exact ⟨Nat.le_refl _, hp, by dsimp only; omega⟩
theorem nmb_1 (T : List Nat) {k p v : Nat} (hp : p ≤ T.length) (hv : v * 10 ^ (k + 1) + 10 ^ (k + 1) ≤ 1000) (q : 48 ≤ chL T p ∧ chL T p ≤ 57) : p + 1 ≤ (nmb T (k + 1) p v).1 := by
  unfold nmb
  rw [if_pos q]
  have hl := chL_lt (T := T) (p := p) (by omega)
  have hpk : 0 < 10 ^ k := Nat.pow_pos (by decide)
  have hv2 : (v * 10 + chL T p - 48) * 10 ^ k + 10 ^ k ≤ 1000 := by
    have h1 : (v * 10 + chL T p - 48) + 1 ≤ v * 10 + 10 := by omega
    have h2 : ((v * 10 + chL T p - 48) + 1) * 10 ^ k ≤ (v * 10 + 10) * 10 ^ k := Nat.mul_le_mul_right _ h1
    rw [Nat.add_mul, Nat.one_mul] at h2
    have h3 : (v * 10 + 10) * 10 ^ k = v * 10 ^ (k + 1) + 10 ^ (k + 1) := by
      rw [Nat.pow_succ, Nat.add_mul, Nat.mul_assoc, Nat.mul_comm (10 ^ k) 10]
    omega
  exact (nmb_gd T k (p + 1) _ (by omega) hv2).1
theorem pOne_gd {T : List Nat} {u : Nat} {g : Option (Nat → RR)} (hg : ∀ f, g = some f → GD T f) : GD T (pOne T u g) := by
  intro p hp
  unfold pOne
  by_cases q : 48 ≤ chL T p ∧ chL T p ≤ 57
  · rw [if_pos q]
    have h1 := nmb_gd T 3 p 0 hp (by decide)
    have h2 : p + 1 ≤ (nmb T 3 p 0).1 := nmb_1 T (k := 2) (v := 0) hp (by decide) q
    refine ⟨h1.1, h1.2.1, Nat.zero_le _, ?_⟩
    show 1 + p ≤ (nmb T 3 p 0).1
    omega
  rw [if_neg q]
  by_cases q2 : nam u (chL T p) < 9
  · rw [if_pos q2]
    have hl := chL_lt (nam_lt q2).2.1
    refine ⟨Nat.le_succ _, hl, Nat.zero_le _, ?_⟩
    show 1 + p ≤ p + 1
    omega
  rw [if_neg q2]
  by_cases q3 : chL T p = 40
  · rw [if_pos q3]
    have hl := chL_lt (T := T) (p := p) (by omega)
    cases g with
    | none => exact ⟨Nat.le_refl _, hp, Nat.le_refl _, by show 0 + p ≤ p; omega⟩
    | some f =>
      obtain ⟨a1, a2, a3, a4⟩ := hg f rfl (p + 1) (by omega)
      dsimp only
      by_cases q4 : (f (p + 1)).2.1 = 0 ∧ chL T (f (p + 1)).1 = 41
      · rw [if_pos q4]
        have hl2 := chL_lt (T := T) (p := (f (p + 1)).1) (by omega)
        exact ⟨by dsimp only; omega, by dsimp only; omega, Nat.zero_le _, by dsimp only; omega⟩
      · rw [if_neg q4]
        exact ⟨by dsimp only; omega, a2, Nat.le_refl _, by dsimp only; omega⟩
  · rw [if_neg q3]
    exact ⟨Nat.le_refl _, hp, Nat.le_refl _, by show 0 + p ≤ p; omega⟩
theorem op_lt {c : Nat} : (opT c < 9 → c < 256) ∧ (opS c < 9 → c < 256) ∧ (opC c < 9 → c < 256) := by
  unfold opT opS opC
  refine ⟨fun h => ?_, fun h => ?_, fun h => ?_⟩
  · by_cases a : c = 42
    · omega
    · rw [if_neg a] at h
      by_cases b : c = 47
      · omega
      · rw [if_neg b] at h; omega
  · by_cases a : c = 43
    · omega
    · rw [if_neg a] at h
      by_cases b : c = 45
      · omega
      · rw [if_neg b] at h; omega
  · by_cases a : c = 60
    · omega
    · rw [if_neg a] at h
      by_cases b : c = 61
      · omega
      · rw [if_neg b] at h
        by_cases d : c = 62
        · omega
        · rw [if_neg d] at h; omega
theorem pLn_b {T : List Nat} {r s : RR} {o p : Nat} (r2 : r.1 ≤ T.length) (r4 : r.2.2.length + p ≤ r.1) (s1 : r.1 + 1 ≤ s.1) (s2 : s.1 ≤ T.length) (s3 : s.2.1 ≤ 1) (s4 : s.2.2.length + (r.1 + 1) ≤ s.1) (hp : p ≤ r.1) : p ≤ (pLn r s o).1 ∧ (pLn r s o).1 ≤ T.length ∧ (pLn r s o).2.1 ≤ 1 ∧ (pLn r s o).2.2.length + p ≤ (pLn r s o).1 := by
  unfold pLn
  refine ⟨by dsimp only; omega, s2, s3, ?_⟩
  dsimp only
  rw [List.length_append, List.length_append]
  by_cases q : s.2.1 = 0
  · rw [if_pos q]
    show r.2.2.length + s.2.2.length + 1 + p ≤ s.1
    omega
  · rw [if_neg q]
    show r.2.2.length + s.2.2.length + 0 + p ≤ s.1
    omega
theorem pLp_gd {T : List Nat} {op : Nat → Nat} {sub : Nat → RR} (ho : ∀ c, op c < 9 → c < 256) (hs : GD T sub) : ∀ m r p, p ≤ r.1 → r.1 ≤ T.length → r.2.1 ≤ 1 → r.2.2.length + p ≤ r.1 → p ≤ (pLp T op sub m r).1 ∧ (pLp T op sub m r).1 ≤ T.length ∧ (pLp T op sub m r).2.1 ≤ 1 ∧ (pLp T op sub m r).2.2.length + p ≤ (pLp T op sub m r).1 := by
  intro m
  induction m with
  | zero => intro r p a b c d; exact ⟨a, b, c, d⟩
  | succ m ih =>
    intro r p a b c d
    unfold pLp
    by_cases q : r.2.1 = 0 ∧ op (chL T r.1) < 9
    · rw [if_pos q]
      have hl := chL_lt (ho _ q.2)
      obtain ⟨s1, s2, s3, s4⟩ := hs (r.1 + 1) (by omega)
      obtain ⟨e1, e2, e3, e4⟩ := pLn_b (o := op (chL T r.1)) b d s1 s2 s3 s4 a
      exact ih _ p e1 e2 e3 e4
    · rw [if_neg q]; exact ⟨a, b, c, d⟩
theorem pTm_gd {T : List Nat} {u : Nat} {g : Option (Nat → RR)} (hg : ∀ f, g = some f → GD T f) : GD T (pTm T u g) := fun p hp => by
  have h := pOne_gd (u := u) hg
  obtain ⟨a, b, c, d⟩ := h p hp
  exact pLp_gd (fun c => op_lt.1) h 60 _ p a b c d
theorem pS1_gd {T : List Nat} {u : Nat} {g : Option (Nat → RR)} (hg : ∀ f, g = some f → GD T f) : GD T (pS1 T u g) := fun p hp => by
  have h := pTm_gd (u := u) hg
  obtain ⟨a, b, c, d⟩ := h p hp
  exact pLp_gd (fun c => op_lt.2.1) h 60 _ p a b c d
theorem pSm_gd (T : List Nat) (u : Nat) : ∀ d, GD T (pSm T u d) := by
  intro d
  induction d with
  | zero => exact pS1_gd (fun f q => by cases q)
  | succ d ih => exact pS1_gd (fun f q => by cases q; exact ih)
/-- what codes do with a row of values, the last one first -/
def tw (o : Nat) (a b : Int32) : Int32 := if o = 0 then a + b else if o = 1 then a - b else if o = 2 then a * b else if o = 3 then (if b = nI 0 then nI 0 else a / b) else if o = 4 then (if b ≤ a then nI 0 else nI 1) else if o = 5 then (if a = b then nI 1 else nI 0) else (if a ≤ b then nI 0 else nI 1)
def evs (vs : Nat → Nat) : List Nat → List Int32 → Option (List Int32)
  | [], st => some st
  | c :: cs, st => if c < 1000 then evs vs cs (nI c :: st) else if c < 2000 then (if c < 1004 then evs vs cs (nI (vs (c - 1000)) :: st) else none) else (if c < 2007 then (match st with
    | y :: x :: r => evs vs cs (tw (c - 2000) x y :: r)
    | _ => none) else none)
theorem evs_c (vs : Nat → Nat) (c : Nat) (cs : List Nat) (st : List Int32) : evs vs (c :: cs) st = (if c < 1000 then evs vs cs (nI c :: st) else if c < 2000 then (if c < 1004 then evs vs cs (nI (vs (c - 1000)) :: st) else none) else (if c < 2007 then (match st with
    | y :: x :: r => evs vs cs (tw (c - 2000) x y :: r)
    | _ => none) else none)) := by
  first
  | rfl
  | rw [evs.eq_def]
theorem evs_app (vs : Nat → Nat) : ∀ (a b : List Nat) (st st' : List Int32), evs vs a st = some st' → evs vs (a ++ b) st = evs vs b st' := by
  intro a
  induction a with
  | nil => intro b st st' h; cases h; rfl
  | cons c cs ih =>
    intro b st st' h
    rw [List.cons_append]
    rw [evs_c] at h ⊢
    by_cases q : c < 1000
    · rw [if_pos q] at h ⊢; exact ih b _ _ h
    · rw [if_neg q] at h ⊢
      by_cases q2 : c < 2000
      · rw [if_pos q2] at h ⊢
        by_cases q3 : c < 1004
        · rw [if_pos q3] at h ⊢; exact ih b _ _ h
        · rw [if_neg q3] at h; cases h
      · rw [if_neg q2] at h ⊢
        by_cases q3 : c < 2007
        · rw [if_pos q3] at h ⊢
          match st, h with
          | y :: x :: r, h => exact ih b _ _ h
        · rw [if_neg q3] at h; cases h
/-- codes that push one value -/
def WV (vs : Nat → Nat) (cs : List Nat) (v : Int32) : Prop := ∀ st, evs vs cs st = some (v :: st)
theorem WV_num (vs : Nat → Nat) {c : Nat} (hc : c < 1000) : WV vs [c] (nI c) := fun st => by
  unfold evs
  rw [if_pos hc]
  rfl
theorem WV_nam (vs : Nat → Nat) {k : Nat} (hk : k < 4) : WV vs [1000 + k] (nI (vs k)) := fun st => by
  unfold evs
  rw [if_neg (by omega), if_pos (by omega), if_pos (by omega), show 1000 + k - 1000 = k by omega]
  rfl
theorem WV_two {vs : Nat → Nat} {a b : List Nat} {x y : Int32} {o : Nat} (ho : o < 7) (ha : WV vs a x) (hb : WV vs b y) : WV vs (a ++ b ++ [2000 + o]) (tw o x y) := fun st => by
  rw [List.append_assoc, evs_app vs a _ _ _ (ha st), evs_app vs b _ _ _ (hb _)]
  unfold evs
  rw [if_neg (by omega), if_neg (by omega), if_pos (by omega), show 2000 + o - 2000 = o by omega]
  rfl
end T01
