/-! going along ways until nothing is shorter: a theory of its own -/
section OPSS
abbrev S1 : Type := Nat → Option Nat
def upS (s : S1) (b v : Nat) : S1 := fun j => if j = b then some v else s j
theorem upS_s (s : S1) (b v : Nat) : upS s b v b = some v := if_pos rfl
theorem upS_n (s : S1) {b v j : Nat} (h : j ≠ b) : upS s b v j = s j := if_neg h
variable {O : Nat → Bool} {A B T : Nat → Nat} {n K i k m : Nat} {s : S1} {rk : Nat → Nat}
/-- does way i make its end nearer? -/
def wr (O : Nat → Bool) (A B T : Nat → Nat) (i : Nat) (s : S1) : Prop := O i = true ∧ ∃ v, s (A i) = some v ∧ ∀ u, s (B i) = some u → v + T i < u
noncomputable def rlx (O : Nat → Bool) (A B T : Nat → Nat) (i : Nat) (s : S1) : S1 := @ite _ (wr O A B T i s) (cd _) (upS s (B i) ((s (A i)).getD 0 + T i)) s
theorem rlx_T (h : wr O A B T i s) : rlx O A B T i s = upS s (B i) ((s (A i)).getD 0 + T i) := if_pos h
theorem rlx_F (h : ¬ wr O A B T i s) : rlx O A B T i s = s := if_neg h
noncomputable def psR (O : Nat → Bool) (A B T : Nat → Nat) : Nat → Nat → S1 → S1
  | _, 0, s => s
  | k, m + 1, s => psR O A B T (k + 1) m (rlx O A B T k s)
/-- did a pass write? -/
def psW (O : Nat → Bool) (A B T : Nat → Nat) : Nat → Nat → S1 → Prop
  | _, 0, _ => False
  | k, m + 1, s => wr O A B T k s ∨ psW O A B T (k + 1) m (rlx O A B T k s)
noncomputable def rnd (O : Nat → Bool) (A B T : Nat → Nat) (n : Nat) : Nat → S1 → S1
  | 0, s => s
  | t + 1, s => rnd O A B T n t (psR O A B T 0 n s)
def stl (O : Nat → Bool) (A B T : Nat → Nat) (n : Nat) (s : S1) : Prop := ∀ i, i < n → ¬ wr O A B T i s
theorem psR_stl (h : stl O A B T n s) : ∀ m k, k + m ≤ n → psR O A B T k m s = s ∧ ¬ psW O A B T k m s := by
  intro m
  induction m with
  | zero => intro k hk; exact ⟨rfl, fun q => q⟩
  | succ m ih =>
    intro k hk
    have h1 := h k (by omega)
    unfold psR psW
    rw [rlx_F h1]
    exact ⟨(ih (k + 1) (by omega)).1, fun q => q.elim h1 (ih (k + 1) (by omega)).2⟩
theorem psW_F : ∀ m k s, ¬ psW O A B T k m s → psR O A B T k m s = s ∧ ∀ i, k ≤ i → i < k + m → ¬ wr O A B T i s := by
  intro m
  induction m with
  | zero => intro k s _; exact ⟨rfl, fun i q1 q2 => by omega⟩
  | succ m ih =>
    intro k s hq
    unfold psW at hq
    have h1 : ¬ wr O A B T k s := fun q => hq (Or.inl q)
    have h2 : ¬ psW O A B T (k + 1) m s := fun q => hq (Or.inr (by rw [rlx_F h1]; exact q))
    obtain ⟨e1, e2⟩ := ih (k + 1) s h2
    unfold psR
    rw [rlx_F h1]
    refine ⟨e1, fun i q1 q2 => ?_⟩
    by_cases e : i = k
    · rw [e]; exact h1
    · exact e2 i (by omega) (by omega)
theorem rnd_stl (h : stl O A B T n s) : ∀ t, rnd O A B T n t s = s := by
  intro t
  induction t with
  | zero => rfl
  | succ t ih =>
    unfold rnd
    rw [(psR_stl h n 0 (by omega)).1, ih]
/-- ways that end at a joint of a rank below k write no more -/
def Qk (O : Nat → Bool) (A B T : Nat → Nat) (n : Nat) (rk : Nat → Nat) (k : Nat) (s : S1) : Prop := ∀ i, i < n → rk (B i) < k → ¬ wr O A B T i s
theorem Qk_rlx (hr : ∀ i, i < n → rk (A i) < rk (B i)) {j : Nat} (hj : j < n) (h : Qk O A B T n rk k s) : Qk O A B T n rk k (rlx O A B T j s) ∧ ∀ x, rk x < k → rlx O A B T j s x = s x := by
  by_cases q : wr O A B T j s
  · have hb : ¬ rk (B j) < k := fun q2 => h j hj q2 q
    have hx : ∀ x, rk x < k → rlx O A B T j s x = s x := fun x hx => by
      rw [rlx_T q, upS_n]
      intro e
      rw [e] at hx
      exact hb hx
    refine ⟨fun i hi q2 q3 => h i hi q2 ?_, hx⟩
    obtain ⟨o, v, e1, e2⟩ := q3
    have hri := hr i hi
    rw [hx _ (by omega)] at e1
    rw [hx _ q2] at e2
    exact ⟨o, v, e1, e2⟩
  · rw [rlx_F q]
    exact ⟨h, fun x _ => rfl⟩
theorem wr_self (hne : A i ≠ B i) : ¬ wr O A B T i (rlx O A B T i s) := by
  by_cases q : wr O A B T i s
  · rw [rlx_T q]
    rintro ⟨o, v, e1, e2⟩
    rw [upS_n _ hne] at e1
    have := e2 _ (upS_s _ _ _)
    rw [e1] at this
    simp at this
  · rw [rlx_F q]; exact q
/-- a way that doesn't write goes on so while its begin stays and its end only gets nearer -/
theorem wr_mono {j : Nat} (h : ¬ wr O A B T i s) (hA : A i ≠ B j) : ¬ wr O A B T i (rlx O A B T j s) := by
  by_cases q : wr O A B T j s
  · rintro ⟨o, v, e1, e2⟩
    rw [rlx_T q] at e1 e2
    rw [upS_n _ hA] at e1
    refine h ⟨o, v, e1, fun u eu => ?_⟩
    by_cases e : B i = B j
    · obtain ⟨o2, v2, f1, f2⟩ := q
      have := e2 _ (by rw [e]; exact upS_s _ _ _)
      have := f2 u (by rw [← e]; exact eu)
      rw [f1] at *
      simp only [Option.getD_some] at *
      omega
    · exact e2 u (by rw [upS_n _ e]; exact eu)
  · rw [rlx_F q]; exact h
theorem Qk_pass (hr : ∀ i, i < n → rk (A i) < rk (B i)) (k : Nat) : ∀ m a s, a + m = n → Qk O A B T n rk k s → (∀ i, i < a → rk (B i) = k → ¬ wr O A B T i s) → Qk O A B T n rk (k + 1) (psR O A B T a m s) := by
  intro m
  induction m with
  | zero =>
    intro a s ha h h2 i hi hk
    unfold psR
    by_cases q : rk (B i) < k
    · exact h i hi q
    · exact h2 i (by omega) (by omega)
  | succ m ih =>
    intro a s ha h h2
    unfold psR
    have h3 := Qk_rlx hr (j := a) (by omega) h
    refine ih (a + 1) _ (by omega) h3.1 (fun i hi hk => ?_)
    by_cases e : i = a
    · rw [e]
      have := hr a (by omega)
      exact wr_self (fun q => by rw [q] at this; omega)
    · by_cases q2 : wr O A B T a s
      · refine wr_mono (h2 i (by omega) hk) (fun q => ?_)
        have h5 := hr i (by omega)
        have : ¬ rk (B a) < k := fun q3 => h a (by omega) q3 q2
        rw [← q] at this
        omega
      · rw [rlx_F q2]; exact h2 i (by omega) hk
theorem Qk_rnd (hr : ∀ i, i < n → rk (A i) < rk (B i)) : ∀ t k s, Qk O A B T n rk k s → Qk O A B T n rk (k + t) (rnd O A B T n t s) := by
  intro t
  induction t with
  | zero => intro k s h; exact h
  | succ t ih =>
    intro k s h
    unfold rnd
    have := ih (k + 1) _ (Qk_pass hr k n 0 s (by omega) h (fun i hi => by omega))
    rwa [show k + 1 + t = k + (t + 1) by omega] at this
theorem rnd_settles (hr : ∀ i, i < n → rk (A i) < rk (B i)) (hK : ∀ i, i < n → rk (B i) < K) (s : S1) : stl O A B T n (rnd O A B T n K s) := fun i hi => by
  have := Qk_rnd (O := O) (T := T) hr K 0 s (fun i hi q => by omega)
  rw [Nat.zero_add] at this
  exact this i hi (hK i hi)
/-- y can be reached from x -/
def Rc (O : Nat → Bool) (A B : Nat → Nat) (n x y : Nat) : Prop := ∀ P : Nat → Prop, P x → (∀ i, i < n → O i = true → P (A i) → P (B i)) → P y
theorem Rc_rev {x y : Nat} (h : Rc O A B n x y) : Rc O B A n y x := fun P hy hP => h (fun z => P z → P x) (fun q => q) (fun i hi o f g => f (hP i hi o g)) hy
theorem psR_sound {P : Nat → Prop} (hP : ∀ i, i < n → O i = true → P (A i) → P (B i)) : ∀ m k s, k + m ≤ n → (∀ y v, s y = some v → P y) → ∀ y v, psR O A B T k m s y = some v → P y := by
  intro m
  induction m with
  | zero => intro k s _ h; exact h
  | succ m ih =>
    intro k s hk h
    unfold psR
    refine ih (k + 1) _ (by omega) (fun y v e => ?_)
    by_cases q : wr O A B T k s
    · rw [rlx_T q] at e
      by_cases ey : y = B k
      · obtain ⟨o, v2, f1, f2⟩ := q
        rw [ey]
        exact hP k (by omega) o (h _ _ f1)
      · rw [upS_n _ ey] at e
        exact h y v e
    · rw [rlx_F q] at e
      exact h y v e
theorem rnd_sound {P : Nat → Prop} (hP : ∀ i, i < n → O i = true → P (A i) → P (B i)) : ∀ t s, (∀ y v, s y = some v → P y) → ∀ y v, rnd O A B T n t s y = some v → P y := by
  intro t
  induction t with
  | zero => intro s h; exact h
  | succ t ih =>
    intro s h
    unfold rnd
    exact ih _ (psR_sound hP n 0 s (by omega) h)
theorem psR_keeps : ∀ m k s y, (∃ v, s y = some v) → ∃ v, psR O A B T k m s y = some v := by
  intro m
  induction m with
  | zero => intro k s y h; exact h
  | succ m ih =>
    intro k s y h
    unfold psR
    refine ih (k + 1) _ y ?_
    by_cases q : wr O A B T k s
    · rw [rlx_T q]
      by_cases ey : y = B k
      · rw [ey]; exact ⟨_, upS_s _ _ _⟩
      · rw [upS_n _ ey]; exact h
    · rw [rlx_F q]; exact h
theorem rnd_keeps : ∀ t s y, (∃ v, s y = some v) → ∃ v, rnd O A B T n t s y = some v := by
  intro t
  induction t with
  | zero => intro s y h; exact h
  | succ t ih =>
    intro s y h
    unfold rnd
    exact ih _ y (psR_keeps n 0 s y h)
/-- the joints that are reached, from one alone -/
theorem rnd_reach (hr : ∀ i, i < n → rk (A i) < rk (B i)) (hK : ∀ i, i < n → rk (B i) < K) (x y : Nat) : (∃ v, rnd O A B T n K (upS (fun _ => none) x 0) y = some v) ↔ Rc O A B n x y := by
  constructor
  · rintro ⟨v, e⟩ P hx hP
    refine rnd_sound hP K _ (fun z u ez => ?_) y v e
    by_cases q : z = x
    · rw [q]; exact hx
    · rw [upS_n _ q] at ez; cases ez
  · intro h
    refine h (fun y => ∃ v, rnd O A B T n K (upS (fun _ => none) x 0) y = some v) (rnd_keeps K _ x ⟨0, upS_s _ _ _⟩) (fun i hi o hA => ?_)
    obtain ⟨v, ev⟩ := hA
    have hs := rnd_settles (O := O) (T := T) hr hK (upS (fun _ => none) x 0) i hi
    cases e : rnd O A B T n K (upS (fun _ => none) x 0) (B i) with
    | none => exact absurd ⟨o, v, ev, fun u eu => by rw [e] at eu; cases eu⟩ hs
    | some u => exact ⟨u, rfl⟩
end OPSS
