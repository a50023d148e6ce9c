/-! what the parser's codes do, in both; no fourth name of what can be seen -/
section T04B
variable {T : List Nat} {u p f o : Nat} {vs : Nat → Nat}
def GW (vs : Nat → Nat) (g : Nat → RR) : Prop := ∀ p, (g p).2.1 = 0 → ∃ v, W2 vs (g p).2.2 v
theorem pOne_w {g : Option (Nat → RR)} (hg : ∀ f, g = some f → GW vs f) : GW vs (pOne T u g) := by
  intro p
  unfold pOne
  by_cases q : 48 ≤ chL T p ∧ chL T p ≤ 57
  · rw [if_pos q]
    have hl := chL_lt (T := T) (p := p) (by omega)
    intro _
    exact ⟨_, W2_num vs (nmb_gd T 3 p 0 (by omega) (by decide)).2.2⟩
  rw [if_neg q]
  by_cases q2 : nam u (chL T p) < 9
  · rw [if_pos q2]
    intro _
    exact ⟨_, W2_nam vs (nam_lt q2).1⟩
  rw [if_neg q2]
  by_cases q3 : chL T p = 40
  · rw [if_pos q3]
    cases g with
    | none => intro e; exact absurd e Nat.one_ne_zero
    | some f =>
      dsimp only
      by_cases q4 : (f (p + 1)).2.1 = 0 ∧ chL T (f (p + 1)).1 = 41
      · rw [if_pos q4]
        intro _
        exact hg f rfl (p + 1) q4.1
      · rw [if_neg q4]
        intro e; exact absurd e Nat.one_ne_zero
  · rw [if_neg q3]
    intro e; exact absurd e Nat.one_ne_zero
theorem pLp_w {op : Nat → Nat} {sub : Nat → RR} (ho : ∀ c, op c < 9 → op c < 4) (hs : GW vs sub) : ∀ m (r : RR), (r.2.1 = 0 → ∃ v, W2 vs r.2.2 v) → ((pLp T op sub m r).2.1 = 0 → ∃ v, W2 vs (pLp T op sub m r).2.2 v) := by
  intro m
  induction m with
  | zero => intro r hr; exact hr
  | succ m ih =>
    intro r hr
    unfold pLp
    by_cases q : r.2.1 = 0 ∧ op (chL T r.1) < 9
    · rw [if_pos q]
      refine ih _ (fun e => ?_)
      have e : (sub (r.1 + 1)).2.1 = 0 := e
      obtain ⟨v, hv⟩ := hr q.1
      obtain ⟨w, hw⟩ := hs (r.1 + 1) e
      refine ⟨tw (op (chL T r.1)) v w, ?_⟩
      unfold pLn
      dsimp only
      rw [if_pos e]
      exact W2_two (ho _ q.2) hv hw
    · rw [if_neg q]; exact hr
theorem opT_4 : ∀ c, opT c < 9 → opT c < 4 := fun c h => by
  rcases opT_c h with ⟨_, e⟩ | ⟨_, e⟩ <;> rw [e] <;> decide
theorem opS_4 : ∀ c, opS c < 9 → opS c < 4 := fun c h => by
  rcases opS_c h with ⟨_, e⟩ | ⟨_, e⟩ <;> rw [e] <;> decide
theorem pS1_w {g : Option (Nat → RR)} (hg : ∀ f, g = some f → GW vs f) : GW vs (pS1 T u g) := by
  have h1 : GW vs (pOne T u g) := pOne_w hg
  have h2 : GW vs (pTm T u g) := fun p => pLp_w opT_4 h1 60 _ (h1 p)
  exact fun p => pLp_w opS_4 h2 60 _ (h2 p)
theorem pSm_w (vs : Nat → Nat) (T : List Nat) (u : Nat) : ∀ d, GW vs (pSm T u d) := by
  intro d
  induction d with
  | zero => exact pS1_w (fun f q => by cases q)
  | succ d ih => exact pS1_w (fun f q => by cases q; exact ih)
theorem pTs_w (vs : Nat → Nat) (T : List Nat) (u p : Nat) : (pTs T u p).2.1 = 0 → ∃ w, W3 vs (pTs T u p).2.2 w := by
  have h1 := pSm_w vs T u 4 p
  have h2 := pSm_w vs T u 4 ((pSm T u 4 p).1 + 1)
  unfold pTs
  by_cases q : (pSm T u 4 p).2.1 = 0 ∧ opC (chL T (pSm T u 4 p).1) < 9
  · rw [if_pos q]
    intro e
    have e : (pSm T u 4 ((pSm T u 4 p).1 + 1)).2.1 = 0 := e
    obtain ⟨v, hv⟩ := h1 q.1
    obtain ⟨w, hw⟩ := h2 e
    refine ⟨tw (opC (chL T (pSm T u 4 p).1)) v w, ?_⟩
    unfold pLn
    dsimp only
    rw [if_pos e]
    refine W3_two ?_ ?_ hv hw
    · rcases opC_c q.2 with ⟨_, e⟩ | ⟨_, e⟩ | ⟨_, e⟩ <;> rw [e] <;> decide
    · rcases opC_c q.2 with ⟨_, e⟩ | ⟨_, e⟩ | ⟨_, e⟩ <;> rw [e] <;> decide
  · rw [if_neg q]
    intro e; exact absurd e Nat.one_ne_zero
theorem pA_w (vs : Nat → Nat) (T : List Nat) (u : Nat) : ∀ m p, (pA T u m p).2.1 = 0 → ∃ ws, T2 vs (pA T u m p).2.2 ws := by
  intro m
  induction m with
  | zero =>
    intro p e
    obtain ⟨w, hw⟩ := pTs_w vs T u p e
    exact ⟨_, T2_1 hw⟩
  | succ m ih =>
    intro p
    unfold pA
    by_cases q : (pTs T u p).2.1 = 0 ∧ chL T (pTs T u p).1 = 38
    · rw [if_pos q]
      intro e
      obtain ⟨w, hw⟩ := pTs_w vs T u p q.1
      obtain ⟨ws, hws⟩ := ih _ e
      exact ⟨_, T2_app (T2_1 hw) hws⟩
    · rw [if_neg q]
      intro e
      obtain ⟨w, hw⟩ := pTs_w vs T u p e
      exact ⟨_, T2_1 hw⟩
theorem pTt_w (vs : Nat → Nat) (T : List Nat) (u : Nat) (s : RR) : (pTt T u s).2.1 = 0 → ∃ ws, T2 vs (pTt T u s).2.2 ws := by
  unfold pTt
  by_cases q : s.2.1 = 0 ∧ chL T s.1 = 63
  · rw [if_pos q]; exact pA_w vs T u 59 _
  · rw [if_neg q]; intro _; exact ⟨[], T2_nil vs⟩
/-- all cases of a text can be run, in both -/
def V2 (vs : Nat → Nat) (cl : List (List Nat × List Nat)) : Prop := ∀ c ∈ cl, (∃ v, W2 vs c.1 v) ∧ ∃ ws, T2 vs c.2 ws
theorem pCs_w (vs : Nat → Nat) (T : List Nat) (u : Nat) : ∀ m p, (pCs T u m p).2.1 = 0 → V2 vs (pCs T u m p).2.2 := by
  intro m
  induction m with
  | zero => intro p e c hc; cases hc
  | succ m ih =>
    intro p
    have h1 := pSm_w vs T u 4 p
    have h2 := pTt_w vs T u (pSm T u 4 p)
    have hok := pTt_ok (T := T) (u := u) (s := pSm T u 4 p)
    rw [pCs]
    generalize pSm T u 4 p = s at *
    generalize pTt T u s = t at *
    by_cases qa : ((t.2.1 = 0 ∧ chL T t.1 = 59) ∧ 1 ≤ m)
    · rw [if_pos qa]
      intro e c hc
      rcases List.mem_cons.mp hc with rfl | hc
      · exact ⟨h1 (hok qa.1.1), h2 qa.1.1⟩
      · exact ih _ e c hc
    · rw [if_neg qa]
      intro e c hc
      have e : t.2.1 = 0 := e
      rcases List.mem_cons.mp hc with rfl | hc
      · exact ⟨h1 (hok e), h2 e⟩
      · cases hc
def NC (cs : List Nat) : Prop := ∀ c ∈ cs, c ≠ 1003
def GN (T : List Nat) (g : Nat → RR) : Prop := ∀ p, p ≤ T.length → NC (g p).2.2
theorem NC_app {a b : List Nat} (ha : NC a) (hb : NC b) : NC (a ++ b) := fun c hc => by
  rcases List.mem_append.mp hc with q | q
  · exact ha c q
  · exact hb c q
theorem NC_nil : NC [] := fun c hc => by cases hc
theorem NC_1 {x : Nat} (hx : x ≠ 1003) : NC [x] := fun c hc => by rw [List.mem_singleton.mp hc]; exact hx
theorem nam1 {c : Nat} : nam 1 c ≠ 3 := by
  unfold nam
  rw [if_neg (by decide)]
  by_cases a : c = 119
  · rw [if_pos a]; decide
  · rw [if_neg a]
    by_cases b : c = 99
    · rw [if_pos b]; decide
    · rw [if_neg b]
      by_cases d : c = 115
      · rw [if_pos d]; decide
      · rw [if_neg d]; decide
theorem pOne_nc {g : Option (Nat → RR)} (hg : ∀ f, g = some f → GN T f) : GN T (pOne T 1 g) := by
  intro p hp
  unfold pOne
  by_cases q : 48 ≤ chL T p ∧ chL T p ≤ 57
  · rw [if_pos q]
    have := (nmb_gd T 3 p 0 hp (by decide)).2.2
    exact NC_1 (by omega)
  rw [if_neg q]
  by_cases q2 : nam 1 (chL T p) < 9
  · rw [if_pos q2]
    have := nam1 (c := chL T p)
    exact NC_1 (by omega)
  rw [if_neg q2]
  by_cases q3 : chL T p = 40
  · rw [if_pos q3]
    have hl := chL_lt (T := T) (p := p) (by omega)
    cases g with
    | none => exact NC_nil
    | some f =>
      have := hg f rfl (p + 1) (by omega)
      dsimp only
      by_cases q4 : (f (p + 1)).2.1 = 0 ∧ chL T (f (p + 1)).1 = 41
      · rw [if_pos q4]; exact this
      · rw [if_neg q4]; exact this
  · rw [if_neg q3]; exact NC_nil
theorem pLn_nc {r s : RR} {o : Nat} (hr : NC r.2.2) (hs : NC s.2.2) : NC (pLn r s o).2.2 := by
  unfold pLn
  refine NC_app (NC_app hr hs) ?_
  by_cases q : s.2.1 = 0
  · rw [if_pos q]; exact NC_1 (by omega)
  · rw [if_neg q]; exact NC_nil
theorem pLp_nc {op : Nat → Nat} {sub : Nat → RR} (ho : ∀ c, op c < 9 → c < 256) (hg : GD T sub) (hs : GN T sub) : ∀ m (r : RR), r.1 ≤ T.length → NC r.2.2 → NC (pLp T op sub m r).2.2 := by
  intro m
  induction m with
  | zero => intro r a b; exact b
  | succ m ih =>
    intro r a b
    unfold pLp
    by_cases q : r.2.1 = 0 ∧ op (chL T r.1) < 9
    · rw [if_pos q]
      have hl := chL_lt (ho _ q.2)
      exact ih _ (hg (r.1 + 1) (by omega)).2.1 (pLn_nc b (hs (r.1 + 1) (by omega)))
    · rw [if_neg q]; exact b
theorem pSm_nc (T : List Nat) : ∀ d, GN T (pSm T 1 d) := by
  have one : ∀ g, (∀ f, g = some f → GD T f) → (∀ f, g = some f → GN T f) → GN T (pS1 T 1 g) := fun g h1 h2 => by
    have a1 := pOne_gd (u := 1) h1
    have a2 := pOne_nc h2
    have b1 := pTm_gd (u := 1) h1
    have b2 : GN T (pTm T 1 g) := fun p hp => pLp_nc (fun c => op_lt.1) a1 a2 60 _ (a1 p hp).2.1 (a2 p hp)
    exact fun p hp => pLp_nc (fun c => op_lt.2.1) b1 b2 60 _ (b1 p hp).2.1 (b2 p hp)
  intro d
  induction d with
  | zero => exact one none (fun f q => by cases q) (fun f q => by cases q)
  | succ d ih => exact one _ (fun f q => by cases q; exact pSm_gd T 1 d) (fun f q => by cases q; exact ih)
theorem pTs_nc (T : List Nat) : GN T (pTs T 1) := fun p hp => by
  have a := pSm_gd T 1 4 p hp
  unfold pTs
  by_cases q : (pSm T 1 4 p).2.1 = 0 ∧ opC (chL T (pSm T 1 4 p).1) < 9
  · rw [if_pos q]
    have hl := chL_lt (op_lt.2.2 q.2)
    exact pLn_nc (pSm_nc T 4 p hp) (pSm_nc T 4 _ (by omega))
  · rw [if_neg q]; exact pSm_nc T 4 p hp
theorem pA_nc (T : List Nat) : ∀ m, GN T (pA T 1 m) := by
  intro m
  induction m with
  | zero => exact pTs_nc T
  | succ m ih =>
    intro p hp
    have a := pTs_gd T 1 p hp
    unfold pA
    by_cases q : (pTs T 1 p).2.1 = 0 ∧ chL T (pTs T 1 p).1 = 38
    · rw [if_pos q]
      have hl := chL_lt (T := T) (p := (pTs T 1 p).1) (by omega)
      exact NC_app (pTs_nc T p hp) (ih _ (by omega))
    · rw [if_neg q]; exact pTs_nc T p hp
theorem pTt_nc (T : List Nat) {s : RR} (s2 : s.1 ≤ T.length) : NC (pTt T 1 s).2.2 := by
  unfold pTt
  by_cases q : s.2.1 = 0 ∧ chL T s.1 = 63
  · rw [if_pos q]
    have hl := chL_lt (T := T) (p := s.1) (by omega)
    exact pA_nc T 59 _ (by omega)
  · rw [if_neg q]; exact NC_nil
theorem pCs_nc (T : List Nat) : ∀ m p, p ≤ T.length → ∀ c ∈ (pCs T 1 m p).2.2, NC c.1 ∧ NC c.2 := by
  intro m
  induction m with
  | zero => intro p hp c hc; cases hc
  | succ m ih =>
    intro p hp
    have a := pSm_gd T 1 4 p hp
    have b := pTt_gd T 1 a.2.1 a.2.2.1
    have c1 := pSm_nc T 4 p hp
    have c2 := pTt_nc T a.2.1
    rw [pCs]
    generalize pSm T 1 4 p = s at *
    generalize pTt T 1 s = t at *
    by_cases qa : ((t.2.1 = 0 ∧ chL T t.1 = 59) ∧ 1 ≤ m)
    · rw [if_pos qa]
      have hl := chL_lt (T := T) (p := t.1) (by omega)
      intro c hc
      rcases List.mem_cons.mp hc with rfl | hc
      · exact ⟨c1, c2⟩
      · exact ih _ (by omega) c hc
    · rw [if_neg qa]
      intro c hc
      rcases List.mem_cons.mp hc with rfl | hc
      · exact ⟨c1, c2⟩
      · cases hc
end T04B
