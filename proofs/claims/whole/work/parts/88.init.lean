/-! both constructors: the heap behind them -/
/-- the empty heap -/
def mh_0 : mh_H := (0, 0, (fun _ => 0), (fun _ => 0), (fun _ _ => 0), (fun _ _ => none))
/-- all ints are 0, those of ways aside -/
def Pz (h : mh_H) : Prop := ∀ a j, mh_isW (mh_k h a) = false → mh_i h a j = 0
def Kp (x : Option mh_H) : Prop := ∀ h, x = some h → Pz h
theorem Kp_some {h : mh_H} (p : Pz h) : Kp (some h) := fun _ e => by cases e; exact p
theorem Kp_bind {x : Option mh_H} {f : mh_H → Option mh_H} (hx : Kp x) (hf : ∀ h, Pz h → Kp (f h)) : Kp (x.bind f) := fun h e => by
  obtain ⟨v, e1, e2⟩ := mh_ob e
  exact hf v (hx v e1) h e2
section KP
variable {h : mh_H}
theorem pz_si0 (p : Pz h) (a j : Nat) : Pz (mh_si h a j 0) := fun b k q => by
  show (if b = a ∧ k = j then 0 else mh_i h b k) = 0
  by_cases c : b = a ∧ k = j
  · rw [if_pos c]
  · rw [if_neg c]; exact p b k q
theorem Kp_pI (p : Pz h) (ci a j : Nat) : Kp (pI h ci a j 0) := fun _ e => by
  obtain ⟨-, e⟩ := mh_oi e
  cases e; exact pz_si0 p a j
theorem Kp_pB (p : Pz h) (ci a j : Nat) : Kp (pB h ci a j 0) := fun _ e => by
  obtain ⟨-, e⟩ := mh_oi e
  cases e; exact pz_si0 p a j
theorem Kp_pR (p : Pz h) (ci a j b : Nat) : Kp (pR h ci a j b) := fun _ e => by
  obtain ⟨-, e⟩ := mh_oi e
  cases e; exact p
theorem Kp_uR (p : Pz h) (a : Nat) (i : Int32) (b : Nat) : Kp (uR h a i b) := fun _ e => by
  obtain ⟨-, e⟩ := mh_oi e
  cases e; exact p
theorem Kp_pW (p : Pz h) (a j : Nat) (x : Int32) : Kp (pW h a j x) := fun _ e => by
  obtain ⟨c, e⟩ := mh_oi e
  cases e
  intro b k q
  show (if b = a ∧ k = j then x else mh_i h b k) = 0
  by_cases c2 : b = a ∧ k = j
  · have q2 : mh_isW (mh_k h b) = false := q
    rw [c2.1, c.2] at q2
    cases q2
  · rw [if_neg c2]; exact p b k q
theorem pz_new (p : Pz h) (kd ln : Nat) : Pz (mh_new h kd ln) := fun b k q => by
  show (if b = mh_n h then 0 else mh_i h b k) = 0
  by_cases c : b = mh_n h
  · rw [if_pos c]
  · rw [if_neg c]
    refine p b k ?_
    have q2 : mh_isW (if b = mh_n h then kd else mh_k h b) = false := q
    rw [if_neg c] at q2
    exact q2
theorem Kp_nO (p : Pz h) (ci : Nat) : Kp (nO h ci) := fun _ e => by
  obtain ⟨-, e⟩ := mh_oi e
  cases e; exact pz_new p _ _
theorem Kp_nA (p : Pz h) (kd : Nat) (n : Int32) : Kp (nA h kd n) := fun _ e => by
  obtain ⟨-, e⟩ := mh_oi e
  cases e; exact pz_new p _ _
theorem Kp_8 (p : Pz h) (N a : Nat) : Kp (D_X8_init N h a) := by
  unfold D_X8_init
  repeat (refine Kp_bind (by first | exact Kp_pI p _ _ _ | exact Kp_pB p _ _ _ | exact Kp_nA p _ _ | exact Kp_pR p _ _ _ _) fun h p => ?_)
  exact Kp_some p
theorem Kp_1 (p : Pz h) (N a : Nat) : Kp (D_X1_init N h a) := by
  unfold D_X1_init
  repeat (refine Kp_bind (by first | exact Kp_pI p _ _ _ | exact Kp_pB p _ _ _ | exact Kp_nA p _ _ | exact Kp_pR p _ _ _ _) fun h p => ?_)
  exact Kp_some p
theorem Kp_6 (p : Pz h) (N a : Nat) (n : Int32) : Kp (D_X6_init N h a n) := by
  unfold D_X6_init
  repeat (refine Kp_bind (by first | exact Kp_pI p _ _ _ | exact Kp_pB p _ _ _ | exact Kp_nA p _ _ | exact Kp_pR p _ _ _ _) fun h p => ?_)
  exact Kp_some p
theorem Kp_5 (p : Pz h) (N a : Nat) : Kp (D_X5_init N h a) := by
  unfold D_X5_init
  repeat (refine Kp_bind (by first | exact Kp_pI p _ _ _ | exact Kp_pB p _ _ _ | exact Kp_nA p _ _ | exact Kp_pR p _ _ _ _ | exact Kp_nO p _ | exact Kp_6 p _ _ _) fun h p => ?_)
  exact Kp_some p
theorem Kp_9 (p : Pz h) (N a : Nat) (x y z w : Int32) : Kp (D_X9_init N h a x y z w) := by
  unfold D_X9_init
  repeat (refine Kp_bind (by exact Kp_pW p _ _ _) fun h p => ?_)
  exact Kp_some p
theorem Kp_10l (N : Nat) : ∀ (F : Nat) (h : mh_H) (a b : Nat) (i : Int32), Pz h → Kp (D_X10_init_140 N F h a b i) := by
  intro F
  induction F with
  | zero => intro h a b i p h' e; cases e
  | succ F ih =>
    intro h a b i p
    unfold D_X10_init_140
    by_cases c : (24 : Int32) ≤ i
    · rw [if_pos c]; exact Kp_some p
    · rw [if_neg c]
      intro h' e
      obtain ⟨v, -, e⟩ := mh_ob e
      exact Kp_bind (Kp_uR p _ _ _) (fun h2 p2 => ih h2 _ _ _ p2) h' e
theorem Kp_10 (p : Pz h) (N a : Nat) : Kp (D_X10_init N h a) := by
  unfold D_X10_init
  repeat (refine Kp_bind (by first | exact Kp_pI p _ _ _ | exact Kp_pB p _ _ _ | exact Kp_nA p _ _ | exact Kp_pR p _ _ _ _ | exact Kp_nO p _ | exact Kp_8 p _ _ | exact Kp_1 p _ _ | exact Kp_6 p _ _ _ | exact Kp_9 p _ _ _ _ _ _) fun h p => ?_)
  exact Kp_10l _ _ _ _ _ _ p
theorem Kp_11 (p : Pz h) (N a : Nat) : Kp (D_X11_init N h a) := by
  unfold D_X11_init
  repeat (refine Kp_bind (by first | exact Kp_pI p _ _ _ | exact Kp_pB p _ _ _ | exact Kp_nA p _ _ | exact Kp_pR p _ _ _ _ | exact Kp_nO p _ | exact Kp_8 p _ _ | exact Kp_10 p _ _ | exact Kp_6 p _ _ _ | exact Kp_5 p _ _) fun h p => ?_)
  exact Kp_some p
theorem Kp_12 (p : Pz h) (N a : Nat) : Kp (D_X12_init N h a) := by
  unfold D_X12_init
  repeat (refine Kp_bind (by first | exact Kp_pI p _ _ _ | exact Kp_pB p _ _ _ | exact Kp_nA p _ _ | exact Kp_pR p _ _ _ _ | exact Kp_nO p _) fun h p => ?_)
  exact Kp_some p
end KP
def i_1 : Option mh_H := (nO mh_0 11).bind fun h1 => D_X11_init 100000 h1 0
def i_2 : Option mh_H := i_1.bind fun q2 => (nO q2 12).bind fun h3 => D_X12_init 100000 h3 86
def i_c1 : Bool := match i_1 with
  | some h => mh_n h == 86
  | none => false
def i_chk (h : mh_H) : Bool := mh_n h == 105 && mh_z h ≤ 100000 && (List.range 105).all (fun k => mh_k h k == Kd k && mh_l h k == Ld k) && rdL.all (fun q => mh_r h q.1 q.2.1 == some q.2.2) && (List.range 24).all (fun i => mh_r h 5 i == some 31 && mh_r h 36 i == some 62)
def i_c2 : Bool := match i_2 with
  | some h => i_chk h
  | none => false
theorem i_c1_ok : i_c1 = true := by decide +kernel
theorem i_c2_ok : i_c2 = true := by decide +kernel
theorem i_ex : ∃ q2 h, i_1 = some q2 ∧ mh_n q2 = 86 ∧ i_2 = some h ∧ i_chk h = true ∧ Pz h := by
  have h1 := i_c1_ok
  have h2 := i_c2_ok
  have k2 : Kp i_2 := by
    unfold i_2 i_1
    refine Kp_bind (Kp_bind (Kp_nO (fun _ _ _ => rfl) _) fun h p => Kp_11 p _ _) fun h p => Kp_bind (Kp_nO p _) fun h p => Kp_12 p _ _
  unfold i_c1 at h1
  unfold i_c2 at h2
  cases e1 : i_1 with
  | none => rw [e1] at h1; cases h1
  | some q2 =>
    cases e2 : i_2 with
    | none => rw [e2] at h2; cases h2
    | some h =>
      rw [e1] at h1
      rw [e2] at h2
      exact ⟨q2, h, rfl, eq_of_beq h1, rfl, h2, k2 h e2⟩
/-- the number whose int is x -/
def nm (x : Int32) : Nat := x.toBitVec.toNat
theorem nI_nm (x : Int32) : nI (nm x) = x := by
  apply Int32.toBitVec_inj.mp
  show BitVec.ofNat 32 x.toBitVec.toNat = x.toBitVec
  apply BitVec.eq_of_toNat_eq
  rw [BitVec.toNat_ofNat]
  exact Nat.mod_eq_of_lt x.toBitVec.isLt
theorem tot_0 (t : Nat) : tot (fun _ => 0) t = 0 := by
  unfold tot
  rw [List.map_const']
  exact List.sum_replicate_nat.trans (Nat.mul_zero _)
theorem B_all_0 : B_all (fun _ => 0) := by
  refine ⟨⟨by decide, by decide, by decide, by decide, by decide, by decide, by decide, by decide, fun c _ => Nat.zero_le _⟩, ⟨fun j hj => absurd hj (Nat.not_lt_zero _), fun j _ _ k _ => rfl, fun j _ _ k _ => rfl⟩, ⟨fun j hj => absurd hj (Nat.not_lt_zero _), fun j _ _ k _ => rfl⟩, ⟨fun j hj => absurd hj (Nat.not_lt_zero _), fun j _ _ k _ => rfl⟩, ⟨fun j hj => absurd hj (Nat.not_lt_zero _), fun j _ _ k _ => rfl⟩, ⟨by rw [tot_0]; exact Nat.zero_le _, fun c _ => by rw [tot_0]; exact Nat.zero_le _⟩, fun c _ _ => ⟨tot_0 _, fun j _ r _ => rfl⟩⟩
def C_0 (h : mh_H) : C2 := fun a j => if a = 31 ∨ a = 62 then nm (mh_i h a j) else 0
theorem C_0n {h : mh_H} {a : Nat} (ha : a ≠ 31) (hb : a ≠ 62) (j : Nat) : C_0 h a j = 0 := if_neg (fun q => q.elim ha hb)
theorem R_world_0 {TX : Nat → Nat → (Nat → Nat) → Z1 → Prop} {h : mh_H} {G : F2} {w M p : Nat} (hn : mh_n h = 105) (hw : w = 1 ∨ w = 32) (hp : p = 31 ∨ p = 62) (hk : mh_isW (mh_k h p) = true) (hr : ∀ i, i < 24 → mh_r h (w + 4) i = some p) : R_world TX h G (C_0 h) (fun _ => 0) w M := by
  have hc : ∀ a, a ≤ w + 28 → w ≤ a → ∀ j, C_0 h a j = 0 := fun a q1 q2 j => C_0n (by omega) (by omega) j
  refine ⟨B_all_0, ⟨hc _ (by omega) (by omega) _, hc _ (by omega) (by omega) _, fun j hj => ⟨hc _ (by omega) (by omega) _, hc _ (by omega) (by omega) _, hc _ (by omega) (by omega) _⟩, by rw [hc _ (by omega) (by omega)]; decide, fun j hj => by rw [hc _ (by omega) (by omega), Nat.zero_div]⟩, fun i hi => ⟨p, hr i hi, by rcases hp with rfl | rfl <;> omega, hk, Or.inr hp, fun q => absurd q (Nat.not_lt_zero _)⟩, ⟨hc _ (by omega) (by omega) _, hc _ (by omega) (by omega) _, hc _ (by omega) (by omega) _, fun c _ => hc _ (by omega) (by omega) _, fun c _ k _ _ => hc _ (by omega) (by omega) _, fun j hj => ⟨hc _ (by omega) (by omega) _, fun c _ => hc _ (by omega) (by omega) _, hc _ (by omega) (by omega) _, hc _ (by omega) (by omega) _, fun c _ r _ => hc _ (by omega) (by omega) _⟩, fun i _ t _ => hc _ (by omega) (by omega) _⟩, fun i hi t ht => ⟨fun q => absurd q (Nat.not_lt_zero _), fun _ r _ => hc _ (by omega) (by omega) _⟩, ⟨hc _ (by omega) (by omega) _, hc _ (by omega) (by omega) _, fun p _ q _ => hc _ (by omega) (by omega) _, fun l hl => ⟨fun q _ => hc _ (by omega) (by omega) _, hc _ (by omega) (by omega) _, fun q => absurd q (Nat.not_lt_zero _)⟩⟩, ⟨hc _ (by omega) (by omega) _, fun i hi => absurd hi (Nat.not_lt_zero _)⟩, Or.inl ⟨hc _ (by omega) (by omega) _, rfl⟩, Or.inl ⟨hc _ (by omega) (by omega) _, rfl⟩, ⟨hc _ (by omega) (by omega) _, fun i hi => absurd hi (Nat.not_lt_zero _)⟩⟩
theorem Rel_0 (TX : Nat → Nat → (Nat → Nat) → Z1 → Prop) {h : mh_H} (hc : i_chk h = true) (hp : Pz h) : Rel TX h ∧ mh_n h = 105 ∧ mh_z h ≤ 100000 := by
  unfold i_chk at hc
  rw [Bool.and_eq_true, Bool.and_eq_true, Bool.and_eq_true, Bool.and_eq_true] at hc
  obtain ⟨⟨⟨⟨c1, c2⟩, c3⟩, c4⟩, c5⟩ := hc
  have hn : mh_n h = 105 := eq_of_beq c1
  have hz : mh_z h ≤ 100000 := of_decide_eq_true c2
  have hkl : ∀ k, k < 105 → mh_k h k = Kd k ∧ mh_l h k = Ld k := fun k hk => by
    have := List.all_eq_true.mp c3 k (List.mem_range.mpr hk)
    rw [Bool.and_eq_true] at this
    exact ⟨eq_of_beq this.1, eq_of_beq this.2⟩
  have hr : ∀ k j r, Rd k j = some r → mh_r h k j = some r := fun k j r e => by
    unfold Rd at e
    cases e1 : rdL.find? (fun q => q.1 == k && q.2.1 == j) with
    | none => rw [e1] at e; cases e
    | some q =>
      rw [e1] at e
      have m := List.mem_of_find?_eq_some e1
      have t := List.find?_some e1
      rw [Bool.and_eq_true] at t
      have t1 := eq_of_beq t.1
      have t2 := eq_of_beq t.2
      have := eq_of_beq (List.all_eq_true.mp c4 q m)
      rw [← t1, ← t2, this]
      exact e
  have hw : ∀ i, i < 24 → mh_r h 5 i = some 31 ∧ mh_r h 36 i = some 62 := fun i hi => by
    have := List.all_eq_true.mp c5 i (List.mem_range.mpr hi)
    rw [Bool.and_eq_true] at this
    exact ⟨eq_of_beq this.1, eq_of_beq this.2⟩
  have hz0 : ∀ a, a < 105 → a ≠ 31 → a ≠ 62 → ∀ j, mh_i h a j = 0 := fun a ha h1 h2 j => by
    refine hp a j ?_
    rw [(hkl a ha).1]
    exact (show ∀ a, a < 105 → a ≠ 31 → a ≠ 62 → mh_isW (Kd a) = false by decide +kernel) a ha h1 h2
  refine ⟨⟨⟨by omega, hkl, hr⟩, mh_i h, fun _ => 0, C_0 h, ?_, ?_⟩, hn, hz⟩
  · funext a j
    unfold cz gz
    dsimp only
    by_cases c : isN a = true
    · rw [if_pos c]
      by_cases c31 : a = 31 ∨ a = 62
      · show _ = nI (if a = 31 ∨ a = 62 then nm (mh_i h a j) else 0)
        rw [if_pos c31, nI_nm]
      · have h83 : a < 86 := by
          unfold isN at c
          rw [Bool.and_eq_true] at c
          exact of_decide_eq_true c.1
        rw [C_0n (fun q => c31 (Or.inl q)) (fun q => c31 (Or.inr q)), hz0 a (by omega) (fun q => c31 (Or.inl q)) (fun q => c31 (Or.inr q))]
        rfl
    · rw [if_neg c]
      by_cases c84 : a = 87 ∧ j < 7770
      · rw [if_pos c84, c84.1, hz0 87 (by decide) (by decide) (by decide)]
        rfl
      · rw [if_neg c84]
  · have g0 : ∀ a, a < 105 → a ≠ 31 → a ≠ 62 → ∀ j, mh_i h a j = nI 0 := hz0
    refine ⟨fun k _ _ => by rw [C_0n (by decide) (by decide)]; exact g0 90 (by decide) (by decide) (by decide) k, by rw [C_0n (by decide) (by decide)]; exact g0 86 (by decide) (by decide) (by decide) 3, ⟨fun s hs => ⟨by rw [C_0n (by decide) (by decide)]; exact g0 102 (by decide) (by decide) (by decide) s, Or.inl (C_0n (by decide) (by decide) s), by rw [C_0n (by decide) (by decide)]; exact g0 103 (by decide) (by decide) (by decide) s, by rw [C_0n (by decide) (by decide)]; decide⟩, fun i hi => by rw [g0 104 (by decide) (by decide) (by decide), g0 84 (by decide) (by decide) (by decide)]⟩, ⟨by rw [C_0n (by decide) (by decide)]; decide, by rw [C_0n (by decide) (by decide)]; exact g0 86 (by decide) (by decide) (by decide) 22, fun i hi => by rw [C_0n (by decide) (by decide)] at hi; omega⟩, R_world_0 hn (by decide) (p := 31) (by decide) (by rw [(hkl 31 (by decide)).1]; decide) (fun i hi => (hw i hi).1), fun _ => 0, fun i _ => g0 88 (by decide) (by decide) (by decide) i, R_world_0 hn (by decide) (p := 62) (by decide) (by rw [(hkl 62 (by decide)).1]; decide) (fun i hi => (hw i hi).2)⟩
/-- the law, from the acts -/
theorem pure_of (hTX : TXc TXt) (hTB : TXd TXt) (L : Nat) (xs : Nat → Int32) (hL : L ≤ 384) : ∃ (N : Nat) (h' : mh_H), D_L_law N L xs mh_0 = some (1, h') ∧ mh_n h' ≤ 600000 ∧ mh_z h' ≤ 7302250 := by
  obtain ⟨q2, h, e1, n1, e2, hc, hp⟩ := i_ex
  obtain ⟨hR, hn, hz⟩ := Rel_0 TXt hc hp
  obtain ⟨h', e, n2, z2⟩ := law_loop (N := 100000) (xs := xs) hTX hTB (by decide) hL 100000 0 h (by omega) hR (by omega) (by omega)
  refine ⟨100000, h', ?_, by omega, by omega⟩
  rw [← e]
  unfold D_L_law
  unfold i_2 at e2
  rw [e1, some_bind] at e2
  unfold i_1 at e1
  show (nO mh_0 11).bind _ = _
  obtain ⟨v, ev, e1⟩ := mh_ob e1
  rw [ev, some_bind]
  show (D_X11_init 100000 v 0).bind _ = _
  rw [e1, some_bind]
  obtain ⟨v2, ev2, e2⟩ := mh_ob e2
  rw [ev2, some_bind, n1, e2]
  rfl
theorem pure_law (L : Nat) (xs : Nat → Int32) (hL : L ≤ 384) : ∃ (N : Nat) (h' : mh_H), D_L_law N L xs mh_0 = some (1, h') ∧ mh_n h' ≤ 600000 ∧ mh_z h' ≤ 7302250 := pure_of TXt_c TXt_d L xs hL
