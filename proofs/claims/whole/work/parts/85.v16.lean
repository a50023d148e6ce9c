/-! what comes out at an end and what flows at a joint do not meet -/
section P16
variable {h : mh_H} {b n N w p now J j c x t A S m o y H : Nat} {G F0 : F2} {C C' C0 : C2} {Z Z' Z'' Z0 : Z1} {T τ T' τ' P P' X X' : Nat → Nat} {MO : Option Nat} {Sp : Nat → Prop}
def AgS (Sp : Nat → Prop) (Z Z' : Z1) : Prop := ∀ i, Sp i → Z i = Z' i
theorem AgS.up {a y : Nat} (q : AgS Sp Z Z') (e : x = y) : AgS Sp (upZ Z a x) (upZ Z' a y) := fun i hi => by
  unfold upZ
  rw [e, q i hi]
/-- the places that the end n writes -/
def Sr (n i : Nat) : Prop := i = 47 + 11 * n ∨ i = 48 + 11 * n ∨ i = 49 + 11 * n ∨ (∃ c, c < 4 ∧ (i = 51 + 11 * n + c ∨ i = 16 + 7 * c + 5 ∨ i = 16 + 7 * c + 6)) ∨ (5380 ≤ i ∧ i < 6916)
theorem Sr_c {i : Nat} (hn : n < 16) (hi : cst i) : ¬ Sr n i := by
  rintro (q | q | q | ⟨c, hc, q⟩ | q) <;> rcases hi with r | r | ⟨j, hj, r⟩ | ⟨w, k, hw, hk, r⟩ | r <;> omega
theorem rk_or : rk Z j = 5 ∨ rk Z j = 6 := by
  unfold rk
  split
  · exact Or.inl rfl
  · exact Or.inr rfl
theorem Sr_k (hc : c < 4) : Sr n (16 + 7 * c + rk Z j) := by
  rcases rk_or (Z := Z) (j := j) with e | e <;> rw [e]
  · exact Or.inr (Or.inr (Or.inr (Or.inl ⟨c, hc, Or.inr (Or.inl rfl)⟩)))
  · exact Or.inr (Or.inr (Or.inr (Or.inl ⟨c, hc, Or.inr (Or.inr rfl)⟩)))
theorem Sr_a (hc : c < 4) : Sr n (51 + 11 * n + c) := Or.inr (Or.inr (Or.inr (Or.inl ⟨c, hc, Or.inl rfl⟩)))
theorem Sr_o {r : Nat} (hn : n < 16) (hr : r < 24) (hc : c < 4) : Sr n (5380 + 4 * (24 * n + r) + c) := Or.inr (Or.inr (Or.inr (Or.inr ⟨by omega, by omega⟩)))
theorem riC_off {i : Nat} (hn : n < 16) (hc : c < 4) (hi : ¬ Sr n i) : riC Z n c i = Z i := by
  unfold riC
  rw [upZ_n (fun e => hi (by rw [e]; exact Sr_a hc)), upZ_n (fun e => hi (by rw [e]; exact Sr_k hc)), upZ_n (fun e => hi (by rw [e]; exact Sr_o hn (Nat.mod_lt _ (by decide)) hc))]
theorem riL_off {i : Nat} (hn : n < 16) (hi : ¬ Sr n i) : ∀ m c Z, c + m = 4 → riL n m c Z i = Z i := by
  intro m
  induction m with
  | zero => intro c Z _; rfl
  | succ m ih => intro c Z hc; rw [riL, ih _ _ (by omega), riC_off hn (by omega) hi]
theorem riZ_off {i : Nat} (hn : n < 16) (hi : ¬ Sr n i) : riZ Z n i = Z i := by
  unfold riZ
  rw [riL_off hn hi 4 0 _ rfl]
  unfold riA
  rw [upZ_n (fun e => hi (Or.inl e)), upZ_n (fun e => hi (Or.inr (Or.inr (Or.inl e)))), upZ_n (fun e => hi (Or.inr (Or.inl e)))]
theorem riC_ag (hn : n < 16) (hc : c < 4) (q : AgS (fun i => Sr n i ∨ cst i) Z Z') : AgS (fun i => Sr n i ∨ cst i) (riC Z n c) (riC Z' n c) := by
  have e0 : Z 0 = Z' 0 := q 0 (Or.inr (Or.inl (by decide)))
  have ek : rk Z n = rk Z' n := by
    unfold rk
    rw [q (44 + 11 * n) (Or.inr (Or.inr (Or.inr (Or.inl ⟨n, hn, Or.inl rfl⟩))))]
  unfold riC
  rw [← e0, ← ek]
  refine ((q.up ?_).up ?_).up rfl
  · exact q _ (Or.inl (Sr_a hc))
  · rw [q _ (Or.inl (Sr_a hc)), q _ (Or.inl (Sr_k hc))]
theorem riL_ag (hn : n < 16) : ∀ m c Z Z', c + m = 4 → AgS (fun i => Sr n i ∨ cst i) Z Z' → AgS (fun i => Sr n i ∨ cst i) (riL n m c Z) (riL n m c Z') := by
  intro m
  induction m with
  | zero => intro c Z Z' _ q; exact q
  | succ m ih => intro c Z Z' hc q; rw [riL, riL]; exact ih _ _ _ (by omega) (riC_ag hn (by omega) q)
theorem riZ_ag (hn : n < 16) (q : AgS (fun i => Sr n i ∨ cst i) Z Z') : AgS (fun i => Sr n i ∨ cst i) (riZ Z n) (riZ Z' n) := by
  unfold riZ
  refine riL_ag hn 4 0 _ _ rfl ?_
  unfold riA
  refine ((q.up ?_).up ?_).up rfl
  · exact q _ (Or.inl (Or.inl rfl))
  · rw [q _ (Or.inl (Or.inl rfl)), q _ (Or.inl (Or.inr (Or.inr (Or.inl rfl))))]
theorem AgS.sk (hn : n < 16) (q : AgS (fun i => ¬ Sr n i) Z Z') : SKz Z Z' := fun i hi => (q i (Sr_c hn hi)).symm
theorem dlt_off {i : Nat} (hw : w < 24) (ht : t < 5) (hn : n < 16) (hi : Sr n i) : dlt Z w t x i = 0 := by
  have hq : Z 0 % 41 < 41 := Nat.mod_lt _ (by decide)
  unfold dlt
  rw [if_neg, if_neg]
  · unfold tgt
    rcases hi with q | q | q | ⟨c, hc, q⟩ | q <;> split <;> (try split) <;> omega
  · rcases hi with q | q | q | ⟨c, hc, q⟩ | q <;> omega
theorem gs_off {i : Nat} (ht : t < 5) (hm : m ≤ 24) (hn : n < 16) (hi : Sr n i) : gsm Z j t X m i = Z i := gs_at ht hm (fun w hw x => dlt_off hw ht hn hi)
theorem flC_off {i : Nat} (hz : Z 2 ≤ 24) (hj : j < 16) (hc : c < 4) (hn : n < 16) (hne : j ≠ n) (hi : Sr n i) : flC A S P MO Z j c i = Z i := by
  unfold flC
  rw [upZ_n, gs_off (by omega) hz hn hi]
  rcases hi with q | q | q | ⟨c, hc, q⟩ | q <;> omega
theorem flL_off {i : Nat} (hj : j < 16) (hn : n < 16) (hne : j ≠ n) (hi : Sr n i) : ∀ m c Z, c + m = 4 → Z 2 ≤ 24 → flL A S P MO j m c Z i = Z i := by
  intro m
  induction m with
  | zero => intro c Z _ _; rfl
  | succ m ih =>
    intro c Z hc hz
    have hs := flC_sk (A := A) (S := S) (P := P) (MO := MO) (c := c) hz hj (by omega)
    rw [flL, ih _ _ (by omega) (by rw [hs.lo (by decide)]; exact hz), flC_off hz hj (by omega) hn hne hi]
theorem flZ_off {i : Nat} (hz : Z 2 ≤ 24) (hj : j < 16) (hn : n < 16) (hne : j ≠ n) (hi : Sr n i) : flZ Z j i = Z i := by
  unfold flZ
  by_cases e : Z (47 + 11 * j) = 0
  · rw [if_pos e]
  · rw [if_neg e]
    have h1 : SKz Z (upZ Z (47 + 11 * j) (sty Z j)) := SKz.up (nc_at0 hj)
    have h2 := gs_sk (Z := upZ Z (47 + 11 * j) (sty Z j)) (j := j) (t := 0) (X := prt Z j) (by decide) hz
    rw [flL_off hj hn hne hi 4 0 _ rfl (by rw [(h1.trans h2).lo (by decide)]; exact hz), gs_off (by decide) hz hn hi, upZ_n]
    rcases hi with q | q | q | ⟨c, hc, q⟩ | q <;> omega
theorem gs_ag (ht : t < 5) (hm : m ≤ 24) (hn : n < 16) (q : AgS (fun i => ¬ Sr n i) Z Z') (hX : ∀ w, w < m → X w = X' w) : AgS (fun i => ¬ Sr n i) (gsm Z j t X m) (gsm Z' j t X' m) := fun i hi => by
  have hs := AgS.sk hn q
  unfold gsm
  rw [q i hi]
  congr 1
  exact sumR_c m 0 (fun w _ hw => by
    rw [(hs.wy (i := w) (by omega)).2.1, dlt_sk hs (by omega), hX w (by omega)])
theorem flR_ag (hs : SKz Z Z') (hz : Z 2 ≤ 24) (hP : ∀ w, w < Z 2 → P w = P' w) : flR A P Z j H = flR A P' Z' j H := by
  unfold flR
  rw [hs.lo (z := 2) (by decide)]
  congr 1
  exact sumR_c (Z 2) 0 (fun w _ hw => by
    unfold flF
    rw [(hs.wy (i := w) (by omega)).2.1, hP w (by omega)])
theorem nS_at (hj : j < 16) (hc : c < 4) (hn : n < 16) (hne : j ≠ n) : ¬ Sr n (51 + 11 * j + c) := by
  rintro (q | q | q | ⟨c', hc', q⟩ | q) <;> omega
theorem nS_at0 (hj : j < 16) (hn : n < 16) (hne : j ≠ n) : ¬ Sr n (47 + 11 * j) := by
  rintro (q | q | q | ⟨c', hc', q⟩ | q) <;> omega
theorem flC_ag (hz : Z 2 ≤ 24) (hj : j < 16) (hc : c < 4) (hn : n < 16) (hne : j ≠ n) (q : AgS (fun i => ¬ Sr n i) Z Z') (hP : ∀ w, w < Z 2 → P w = P' w) : AgS (fun i => ¬ Sr n i) (flC A S P MO Z j c) (flC A S P' MO Z' j c) := by
  have hs := AgS.sk hn q
  have s2 := hs.lo (z := 2) (by decide)
  have eH := q _ (nS_at hj hc hn hne)
  have eR : ∀ H, flR A P Z j H = flR A P' Z' j H := fun H => flR_ag hs hz hP
  unfold flC
  rw [s2]
  refine (gs_ag (by omega) hz hn q (fun w hw => ?_)).up ?_
  · unfold amt
    rw [eR, hP w hw, eH]
  · rw [eR, eH]
theorem flL_ag (hj : j < 16) (hn : n < 16) (hne : j ≠ n) : ∀ m c Z Z', c + m = 4 → Z 2 ≤ 24 → AgS (fun i => ¬ Sr n i) Z Z' → (∀ w, w < Z 2 → P w = P' w) → AgS (fun i => ¬ Sr n i) (flL A S P MO j m c Z) (flL A S P' MO j m c Z') := by
  intro m
  induction m with
  | zero => intro c Z Z' _ _ q _; exact q
  | succ m ih =>
    intro c Z Z' hc hz q hP
    have hs := flC_sk (A := A) (S := S) (P := P) (MO := MO) (c := c) hz hj (by omega)
    have s2 := hs.lo (z := 2) (by decide)
    rw [flL, flL]
    exact ih _ _ _ (by omega) (by rw [s2]; exact hz) (flC_ag hz hj (by omega) hn hne q hP) (by rw [s2]; exact hP)
theorem rst_ag (hs : SKz Z Z') (e : Z (47 + 11 * j) = Z' (47 + 11 * j)) : ∀ m, m ≤ 24 → rst Z j m = rst Z' j m := by
  intro m
  induction m with
  | zero => intro _; exact e
  | succ m ih =>
    intro hm
    obtain ⟨w0, w1, w2, w3, w4⟩ := hs.wy (i := m) (by omega)
    rw [rst, rst, w0, w1, w4, ih (by omega)]
theorem cnt_ag (hs : SKz Z Z') : ∀ m, m ≤ 24 → cnt Z j m = cnt Z' j m := by
  intro m
  induction m with
  | zero => intro _; rfl
  | succ m ih =>
    intro hm
    obtain ⟨w0, w1, w2, w3, w4⟩ := hs.wy (i := m) (by omega)
    rw [cnt, cnt, w0, w1, ih (by omega)]
theorem prt_ag (hs : SKz Z Z') (hz : Z 2 ≤ 24) (e : Z (47 + 11 * j) = Z' (47 + 11 * j)) (hw : w < Z 2) : prt Z j w = prt Z' j w := by
  obtain ⟨w0, w1, w2, w3, w4⟩ := hs.wy (i := w) (by omega)
  unfold prt
  rw [hs.lo (z := 2) (by decide), w0, w4, rst_ag hs e w (by omega), rst_ag hs e (Z 2) hz, cnt_ag hs w (by omega), cnt_ag hs (Z 2) hz]
theorem sty_ag (hs : SKz Z Z') (hz : Z 2 ≤ 24) (e : Z (47 + 11 * j) = Z' (47 + 11 * j)) : sty Z j = sty Z' j := by
  unfold sty
  rw [hs.lo (z := 2) (by decide), rst_ag hs e (Z 2) hz, cnt_ag hs (Z 2) hz]
theorem mst_ag (hs : SKz Z Z') : ∀ m, m ≤ 24 → (∀ w, w < m → P w = P' w) → mst P Z j m = mst P' Z' j m := by
  intro m
  induction m with
  | zero => intro _ _; rfl
  | succ m ih =>
    intro hm hP
    rw [mst, mst, (hs.wy (i := m) (by omega)).2.1, ← ih (by omega) (fun w hw => hP w (by omega))]
    cases e : mst P Z j m with
    | none => rfl
    | some o =>
      dsimp only
      rw [hP m (by omega), hP o (by have := (mst_b _ _ e).1; omega)]
theorem flZ_ag (hz : Z 2 ≤ 24) (hj : j < 16) (hn : n < 16) (hne : j ≠ n) (q : AgS (fun i => ¬ Sr n i) Z Z') : AgS (fun i => ¬ Sr n i) (flZ Z j) (flZ Z' j) := by
  have hs := AgS.sk hn q
  have eA := q _ (nS_at0 hj hn hne)
  have hP : ∀ w, w < Z 2 → prt Z j w = prt Z' j w := fun w hw => prt_ag hs hz eA hw
  unfold flZ
  rw [← eA]
  by_cases e : Z (47 + 11 * j) = 0
  · rw [if_pos e, if_pos e]; exact q
  · rw [if_neg e, if_neg e]
    have h1 : SKz Z (upZ Z (47 + 11 * j) (sty Z j)) := SKz.up (nc_at0 hj)
    have h2 := gs_sk (Z := upZ Z (47 + 11 * j) (sty Z j)) (j := j) (t := 0) (X := prt Z j) (by decide) hz
    have s2 := (h1.trans h2).lo (z := 2) (by decide)
    rw [← sty_ag hs hz eA, hs.lo (z := 2) (by decide), ← mst_ag hs (Z 2) hz hP]
    exact flL_ag hj hn hne 4 0 _ _ rfl (by rw [s2]; exact hz) (gs_ag (by decide) hz hn (q.up rfl) hP) (by rw [s2]; exact hP)
theorem ri_fl (hz : Z 2 ≤ 24) (hj : j < 16) (hn : n < 16) (hne : j ≠ n) : riZ (flZ Z j) n = flZ (riZ Z n) j := by
  funext i
  by_cases hi : Sr n i
  · rw [flZ_off (by rw [(riZ_sk hn).lo (by decide)]; exact hz) hj hn hne hi]
    exact riZ_ag hn (fun k hk => by
      rcases hk with hk | hk
      · exact flZ_off hz hj hn hne hk
      · exact flZ_sk hz hj k hk) i (Or.inl hi)
  · rw [riZ_off hn hi]
    exact flZ_ag hz hj hn hne (fun k hk => (riZ_off hn hk).symm) i hi
end P16
