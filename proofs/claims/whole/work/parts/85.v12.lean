/-! how a joint's water and grains flow: the row's side -/
section P12
variable {h : mh_H} {b n N w p now J j c x t A S m : Nat} {G F0 : F2} {C C' C0 : C2} {Z Z' Z'' Z0 : Z1} {T τ T' τ' P X : Nat → Nat} {MO : Option Nat}
theorem dlt_sk (hS : SKz Z Z') (hw : w < 24) (i : Nat) : dlt Z' w t x i = dlt Z w t x i := by
  obtain ⟨w0, w1, w2, w3, w4⟩ := hS.wy (i := w) hw
  unfold dlt stk tgt
  rw [w0, w4, hS.lo (by decide)]
theorem dlt_0 (hw : w < 24) (ht : t < 5) {i : Nat} (hi : cst i) : dlt Z w t x i = 0 := by
  have := goZ_sk (Z := Z) (x := x) hw ht i hi
  unfold goZ at this
  omega
def gsm (Z : Z1) (j t : Nat) (X : Nat → Nat) (m : Nat) : Z1 := fun i => Z i + sumR (fun w => if Z (221 + 215 * w) = j then dlt Z w t (X w) i else 0) 0 m
theorem gs_0 : gsm Z j t X 0 = Z := by
  funext i
  unfold gsm
  rw [sumR]; rfl
theorem gs_sk (ht : t < 5) (hm : m ≤ 24) : SKz Z (gsm Z j t X m) := fun i hi => by
  unfold gsm
  rw [sumR_z m 0 (fun w _ hw => by
    by_cases e : Z (221 + 215 * w) = j
    · rw [if_pos e]; exact dlt_0 (by omega) ht hi
    · rw [if_neg e])]
  rfl
theorem gs_s (ht : t < 5) (hm : m < 24) (e : Z (221 + 215 * m) = j) : goZ (gsm Z j t X m) m t (X m) = gsm Z j t X (m + 1) := by
  have hS := gs_sk (Z := Z) (j := j) (X := X) ht (show m ≤ 24 by omega)
  funext i
  unfold goZ
  rw [dlt_sk hS hm]
  unfold gsm
  rw [sumR_l, Nat.zero_add, if_pos e, Nat.add_assoc]
theorem gs_n (e : ¬ Z (221 + 215 * m) = j) : gsm Z j t X (m + 1) = gsm Z j t X m := by
  funext i
  unfold gsm
  rw [sumR_l, Nat.zero_add, if_neg e, Nat.add_zero]
theorem gs_tot (ht : t < 5) {t' : Nat} (ht' : t' < 5) : ∀ m, m ≤ 24 → tot (gsm Z j t X m) t' ≤ tot Z t' + (if t' = t then sumR (fun w => if Z (221 + 215 * w) = j then X w else 0) 0 m else 0) := by
  intro m
  induction m with
  | zero => intro _; rw [gs_0]; exact Nat.le_add_right _ _
  | succ m ih =>
    intro hm
    have ih := ih (by omega)
    rw [sumR_l, Nat.zero_add]
    by_cases e : Z (221 + 215 * m) = j
    · rw [← gs_s ht (by omega) e, if_pos e]
      have := goZ_tot (Z := gsm Z j t X m) (w := m) (x := X m) (by omega) ht ht'
      by_cases q : t' = t
      · rw [if_pos q] at ih this ⊢; omega
      · rw [if_neg q] at ih this ⊢; omega
    · rw [gs_n e, if_neg e, Nat.add_zero]; exact ih
def mst (P : Nat → Nat) (Z : Z1) (j : Nat) : Nat → Option Nat
  | 0 => none
  | m + 1 => if Z (221 + 215 * m) = j then (match mst P Z j m with
    | none => some m
    | some o => if P o < P m then some m else some o) else mst P Z j m
def mI (o : Option Nat) : Int32 := match o with
  | none => -nI 1
  | some w => nI w
theorem mst_b : ∀ m o, mst P Z j m = some o → o < m ∧ Z (221 + 215 * o) = j := by
  intro m
  induction m with
  | zero => intro o e; cases e
  | succ m ih =>
    intro o e
    rw [mst] at e
    by_cases q : Z (221 + 215 * m) = j
    · rw [if_pos q] at e
      cases em : mst P Z j m with
      | none => rw [em] at e; cases e; exact ⟨by omega, q⟩
      | some o' =>
        rw [em] at e
        dsimp only at e
        by_cases q2 : P o' < P m
        · rw [if_pos q2] at e; cases e; exact ⟨by omega, q⟩
        · rw [if_neg q2] at e
          injection e with e1
          have := ih o' em
          exact ⟨by omega, by rw [← e1]; exact this.2⟩
    · rw [if_neg q] at e
      have := ih o e
      exact ⟨by omega, this.2⟩
theorem mst_n : ∀ m, mst P Z j m = none → ∀ w, w < m → Z (221 + 215 * w) ≠ j := by
  intro m
  induction m with
  | zero => intro _ w hw; omega
  | succ m ih =>
    intro e w hw
    rw [mst] at e
    by_cases q : Z (221 + 215 * m) = j
    · rw [if_pos q] at e
      cases em : mst P Z j m with
      | none => rw [em] at e; cases e
      | some o' =>
        rw [em] at e
        dsimp only at e
        split at e <;> cases e
    · rw [if_neg q] at e
      by_cases ew : w = m
      · rw [ew]; exact q
      · exact ih e w (by omega)
def flF (A : Nat) (P : Nat → Nat) (Z : Z1) (j H w : Nat) : Nat := if Z (221 + 215 * w) = j then H * P w / A else 0
def flR (A : Nat) (P : Nat → Nat) (Z : Z1) (j H : Nat) : Nat := H - sumR (flF A P Z j H) 0 (Z 2)
def amt (A S : Nat) (P : Nat → Nat) (MO : Option Nat) (Z : Z1) (j H w : Nat) : Nat := H * P w / A + (if S = 0 ∧ MO = some w then flR A P Z j H else 0)
def flC (A S : Nat) (P : Nat → Nat) (MO : Option Nat) (Z : Z1) (j c : Nat) : Z1 := upZ (gsm Z j (1 + c) (amt A S P MO Z j (Z (51 + 11 * j + c))) (Z 2)) (51 + 11 * j + c) (if 0 < S then flR A P Z j (Z (51 + 11 * j + c)) else 0)
def flL (A S : Nat) (P : Nat → Nat) (MO : Option Nat) (j : Nat) : Nat → Nat → Z1 → Z1
  | 0, _, Z => Z
  | m + 1, c, Z => flL A S P MO j m (c + 1) (flC A S P MO Z j c)
def flZ (Z : Z1) (j : Nat) : Z1 := if Z (47 + 11 * j) = 0 then Z else flL (Z (47 + 11 * j)) (sty Z j) (prt Z j) (mst (prt Z j) Z j (Z 2)) j 4 0 (gsm (upZ Z (47 + 11 * j) (sty Z j)) j 0 (prt Z j) (Z 2))
/-- all parts together -/
def spt (P : Nat → Nat) (Z : Z1) (j m : Nat) : Nat := sumR (fun w => if Z (221 + 215 * w) = j then P w else 0) 0 m
theorem div_two {x y d : Nat} : x / d + y / d ≤ (x + y) / d := by
  rcases Nat.eq_zero_or_pos d with e | e
  · rw [e, Nat.div_zero, Nat.div_zero, Nat.div_zero]; exact Nat.le_refl _
  · rw [Nat.le_div_iff_mul_le e, Nat.add_mul]
    have h1 := Nat.div_mul_le_self x d
    have h2 := Nat.div_mul_le_self y d
    omega
theorem fl_sum (A : Nat) (P : Nat → Nat) (Z : Z1) (j H : Nat) : ∀ m, sumR (flF A P Z j H) 0 m ≤ H * spt P Z j m / A := by
  intro m
  induction m with
  | zero => rw [sumR]; exact Nat.zero_le _
  | succ m ih =>
    unfold spt at ih ⊢
    rw [sumR_l, sumR_l, Nat.zero_add]
    unfold flF at ih ⊢
    by_cases e : Z (221 + 215 * m) = j
    · rw [if_pos e, if_pos e, Nat.mul_add]
      exact Nat.le_trans (Nat.add_le_add_right ih _) div_two
    · rw [if_neg e, if_neg e, Nat.add_zero, Nat.add_zero]; exact ih
theorem fl_le {H : Nat} (hm : spt P Z j m ≤ A) : sumR (flF A P Z j H) 0 m ≤ H := by
  refine Nat.le_trans (fl_sum A P Z j H m) ?_
  rcases Nat.eq_zero_or_pos A with e | e
  · rw [e, Nat.div_zero]; exact Nat.zero_le _
  · exact Nat.le_trans (Nat.div_le_div_right (Nat.mul_le_mul_left H hm)) (Nat.le_of_eq (Nat.mul_div_cancel H e))
theorem spt_mono : ∀ d m, spt P Z j m ≤ spt P Z j (m + d) := by
  intro d
  induction d with
  | zero => intro m; exact Nat.le_refl _
  | succ d ih =>
    intro m
    have := ih m
    unfold spt at this ⊢
    rw [show m + (d + 1) = m + d + 1 by omega, sumR_l]
    omega
theorem spt_sk (hS : SKz Z Z') (hm : m ≤ 24) : spt P Z' j m = spt P Z j m := by
  unfold spt
  refine sumR_c m 0 (fun w _ hw => ?_)
  rw [(hS.wy (i := w) (by omega)).2.1]
theorem one_le {H : Nat} (hm : spt P Z j m ≤ A) (hw : w < m) (e : Z (221 + 215 * w) = j) : P w ≤ A ∧ H * P w / A ≤ H := by
  have h1 : P w ≤ spt P Z j m := by
    obtain ⟨d, rfl⟩ : ∃ d, m = w + 1 + d := ⟨m - (w + 1), by omega⟩
    refine Nat.le_trans ?_ (spt_mono d (w + 1))
    unfold spt
    rw [sumR_l, Nat.zero_add, if_pos e]
    omega
  refine ⟨by omega, ?_⟩
  rcases Nat.eq_zero_or_pos A with ea | ea
  · rw [ea, Nat.div_zero]; exact Nat.zero_le _
  · exact Nat.le_trans (Nat.div_le_div_right (Nat.mul_le_mul_left H (show P w ≤ A by omega))) (Nat.le_of_eq (Nat.mul_div_cancel H ea))
/-- water is neither made nor lost where it parts -/
theorem prt_o (Z : Z1) (j : Nat) : ∀ m, sumR (fun w => if Z (221 + 215 * w) = j ∧ Z (220 + 215 * w) = 3 then rst Z j w - Z (224 + 215 * w) else 0) 0 m + rst Z j m = Z (47 + 11 * j) := by
  intro m
  induction m with
  | zero => rw [sumR]; exact Nat.zero_add _
  | succ m ih =>
    rw [sumR_l, Nat.zero_add, rst]
    by_cases e : Z (221 + 215 * m) = j ∧ Z (220 + 215 * m) = 3
    · rw [if_pos e, if_pos e]; omega
    · rw [if_neg e, if_neg e]; omega
theorem prt_e (Z : Z1) (j E Q : Nat) : ∀ m, sumR (fun w => if Z (221 + 215 * w) = j ∧ Z (220 + 215 * w) ≠ 3 then E + (if cnt Z j w < Q then 1 else 0) else 0) 0 m = cnt Z j m * E + min (cnt Z j m) Q := by
  intro m
  induction m with
  | zero => rw [sumR, cnt, Nat.zero_mul, Nat.zero_min]
  | succ m ih =>
    rw [sumR_l, Nat.zero_add, cnt, ih]
    by_cases e : Z (221 + 215 * m) = j ∧ Z (220 + 215 * m) ≠ 3
    · rw [if_pos e, if_pos e, Nat.add_mul, Nat.one_mul]
      by_cases q : cnt Z j m < Q
      · rw [if_pos q]; omega
      · rw [if_neg q]; omega
    · rw [if_neg e, if_neg e]; omega
theorem sumR_add (f g : Nat → Nat) : ∀ m k, sumR (fun w => f w + g w) k m = sumR f k m + sumR g k m := by
  intro m
  induction m with
  | zero => intro k; rfl
  | succ m ih => intro k; rw [sumR, sumR, sumR, ih]; omega
theorem prt_all (Z : Z1) (j : Nat) : spt (prt Z j) Z j (Z 2) + sty Z j = Z (47 + 11 * j) := by
  have h1 := prt_o Z j (Z 2)
  have h2 := prt_e Z j (rst Z j (Z 2) / cnt Z j (Z 2)) (rst Z j (Z 2) % cnt Z j (Z 2)) (Z 2)
  have h3 : spt (prt Z j) Z j (Z 2) = sumR (fun w => if Z (221 + 215 * w) = j ∧ Z (220 + 215 * w) = 3 then rst Z j w - Z (224 + 215 * w) else 0) 0 (Z 2) + sumR (fun w => if Z (221 + 215 * w) = j ∧ Z (220 + 215 * w) ≠ 3 then rst Z j (Z 2) / cnt Z j (Z 2) + (if cnt Z j w < rst Z j (Z 2) % cnt Z j (Z 2) then 1 else 0) else 0) 0 (Z 2) := by
    rw [← sumR_add]
    unfold spt
    refine sumR_c (Z 2) 0 (fun w _ hw => ?_)
    unfold prt
    by_cases e : Z (221 + 215 * w) = j
    · by_cases e3 : Z (220 + 215 * w) = 3
      · have p1 : Z (221 + 215 * w) = j ∧ Z (220 + 215 * w) = 3 := ⟨e, e3⟩
        have n1 : ¬ (Z (221 + 215 * w) = j ∧ Z (220 + 215 * w) ≠ 3) := fun q => q.2 e3
        rw [if_pos e, if_pos e3, if_pos p1, if_neg n1, Nat.add_zero]
      · have n1 : ¬ (Z (221 + 215 * w) = j ∧ Z (220 + 215 * w) = 3) := fun q => e3 q.2
        have p1 : Z (221 + 215 * w) = j ∧ Z (220 + 215 * w) ≠ 3 := ⟨e, e3⟩
        rw [if_pos e, if_neg e3, if_neg n1, if_pos p1, Nat.zero_add]
    · rw [if_neg e, if_neg (fun q => e q.1), if_neg (fun q => e q.1)]
  rw [h3, h2]
  unfold sty
  by_cases q : cnt Z j (Z 2) = 0
  · rw [if_pos q, q]; omega
  · rw [if_neg q]
    have hm := Nat.mod_lt (rst Z j (Z 2)) (show cnt Z j (Z 2) > 0 by omega)
    have hd := Nat.div_add_mod (rst Z j (Z 2)) (cnt Z j (Z 2))
    rw [Nat.min_eq_right (by omega)]
    omega
/-- sums of a colour's parts -/
def bO (S R : Nat) (MO : Option Nat) (m : Nat) : Nat := if S = 0 then (match MO with
  | none => 0
  | some o => if o < m then R else 0) else 0
theorem bO_s (S R : Nat) (MO : Option Nat) (m : Nat) : (if S = 0 ∧ MO = some m then R else 0) + bO S R MO m ≤ bO S R MO (m + 1) := by
  unfold bO
  by_cases s0 : S = 0
  · rw [if_pos s0, if_pos s0]
    cases MO with
    | none => rw [if_neg (fun q => by cases q.2)]; exact Nat.le_refl _
    | some o =>
      dsimp only
      by_cases e : o = m
      · subst e
        rw [if_neg (Nat.lt_irrefl _), if_pos (Nat.lt_succ_self _)]
        split <;> omega
      · rw [if_neg (fun q => e (Option.some.inj q.2))]
        by_cases q : o < m
        · rw [if_pos q, if_pos (by omega)]; omega
        · rw [if_neg q]; omega
  · rw [if_neg s0, if_neg s0, if_neg (fun q => s0 q.1)]; exact Nat.le_refl _
theorem bO_le (S R : Nat) (MO : Option Nat) (m : Nat) : bO S R MO m ≤ if S = 0 then R else 0 := by
  unfold bO
  by_cases s0 : S = 0
  · rw [if_pos s0, if_pos s0]
    cases MO with
    | none => exact Nat.zero_le _
    | some o =>
      dsimp only
      split <;> omega
  · rw [if_neg s0, if_neg s0]; exact Nat.le_refl _
theorem amt_sum {H : Nat} (hP : spt P Z j (Z 2) ≤ A) : sumR (fun w => if Z (221 + 215 * w) = j then amt A S P MO Z j H w else 0) 0 (Z 2) + (if 0 < S then flR A P Z j H else 0) ≤ H := by
  have hf := fl_le (H := H) hP
  have e1 : ∀ m, sumR (fun w => if Z (221 + 215 * w) = j then amt A S P MO Z j H w else 0) 0 m ≤ sumR (flF A P Z j H) 0 m + bO S (flR A P Z j H) MO m := by
    intro m
    induction m with
    | zero => rw [sumR]; exact Nat.zero_le _
    | succ m ih =>
      rw [sumR_l, sumR_l, Nat.zero_add]
      have e2 : (if Z (221 + 215 * m) = j then amt A S P MO Z j H m else 0) ≤ flF A P Z j H m + (if S = 0 ∧ MO = some m then flR A P Z j H else 0) := by
        unfold flF amt
        by_cases e : Z (221 + 215 * m) = j
        · rw [if_pos e, if_pos e]; exact Nat.le_refl _
        · rw [if_neg e]; exact Nat.zero_le _
      have e3 := bO_s S (flR A P Z j H) MO m
      omega
  have e3 := e1 (Z 2)
  have e4 := bO_le S (flR A P Z j H) MO (Z 2)
  have e5 : flR A P Z j H = H - sumR (flF A P Z j H) 0 (Z 2) := rfl
  by_cases s0 : S = 0
  · rw [if_pos s0] at e4
    rw [if_neg (by omega)]
    omega
  · rw [if_neg s0] at e4
    rw [if_pos (by omega)]
    omega
theorem flC_sk (hn : Z 2 ≤ 24) (hj : j < 16) (hc : c < 4) : SKz Z (flC A S P MO Z j c) := (gs_sk (by omega) hn).trans (SKz.up (nc_at hj hc))
theorem gs_at {i : Nat} (ht : t < 5) (hm : m ≤ 24) (hi : ∀ w, w < 24 → ∀ x, dlt Z w t x i = 0) : gsm Z j t X m i = Z i := by
  unfold gsm
  rw [sumR_z m 0 (fun w _ hw => by
    by_cases e : Z (221 + 215 * w) = j
    · rw [if_pos e]; exact hi w (by omega) _
    · rw [if_neg e])]
  rfl
theorem dlt_j {i : Nat} (ht : t < 5) (h1 : 44 ≤ i) (h2 : i < 220) : ∀ w, w < 24 → ∀ x, dlt Z w t x i = 0 := fun w hw x => by
  unfold dlt
  rw [if_neg (by omega), if_neg]
  unfold tgt
  split
  · split <;> omega
  · omega
theorem flC_tot (hn : Z 2 ≤ 24) (hj : j < 16) (hc : c < 4) (hP : spt P Z j (Z 2) ≤ A) {t' : Nat} (ht' : t' < 5) : tot (flC A S P MO Z j c) t' ≤ tot Z t' := by
  unfold flC
  have hg := gs_tot (Z := Z) (j := j) (X := amt A S P MO Z j (Z (51 + 11 * j + c))) (t := 1 + c) (by omega) ht' (Z 2) hn
  by_cases e : t' = 1 + c
  · subst e
    rw [if_pos rfl] at hg
    have h1 := tot_in (Z := gsm Z j (1 + c) (amt A S P MO Z j (Z (51 + 11 * j + c))) (Z 2)) (t := 1 + c) ht' (it_at (j := j) (c := c) hj) (if 0 < S then flR A P Z j (Z (51 + 11 * j + c)) else 0)
    rw [gs_at (by omega) hn (dlt_j (by omega) (by omega) (by omega))] at h1
    have h2 := amt_sum (S := S) (MO := MO) (H := Z (51 + 11 * j + c)) hP
    omega
  · rw [if_neg e] at hg
    rw [tot_out (ni_at hj hc ht' e)]
    omega
theorem flL_sk (hj : j < 16) : ∀ m c Z, c + m = 4 → Z 2 ≤ 24 → SKz Z (flL A S P MO j m c Z) := by
  intro m
  induction m with
  | zero => intro c Z _ _; exact SKz.refl _
  | succ m ih =>
    intro c Z hc hn
    have h1 := flC_sk (A := A) (S := S) (P := P) (MO := MO) (c := c) hn hj (by omega)
    rw [flL]
    exact h1.trans (ih (c + 1) _ (by omega) (by rw [h1.lo (by decide)]; exact hn))
theorem flL_tot (hj : j < 16) {t' : Nat} (ht' : t' < 5) : ∀ m c Z, c + m = 4 → Z 2 ≤ 24 → spt P Z j (Z 2) ≤ A → tot (flL A S P MO j m c Z) t' ≤ tot Z t' := by
  intro m
  induction m with
  | zero => intro c Z _ _ _; exact Nat.le_refl _
  | succ m ih =>
    intro c Z hc hn hP
    have h1 := flC_sk (A := A) (S := S) (P := P) (MO := MO) (c := c) hn hj (by omega)
    rw [flL]
    refine Nat.le_trans (ih (c + 1) _ (by omega) (by rw [h1.lo (by decide)]; exact hn) (by rw [h1.lo (by decide), spt_sk h1 hn]; exact hP)) (flC_tot hn hj (by omega) hP ht')
theorem flZ_sk (hn : Z 2 ≤ 24) (hj : j < 16) : SKz Z (flZ Z j) := by
  unfold flZ
  by_cases e : Z (47 + 11 * j) = 0
  · rw [if_pos e]; exact SKz.refl _
  · rw [if_neg e]
    have h1 : SKz Z (upZ Z (47 + 11 * j) (sty Z j)) := SKz.up (nc_at0 hj)
    have h2 := gs_sk (Z := upZ Z (47 + 11 * j) (sty Z j)) (j := j) (t := 0) (X := prt Z j) (by decide) hn
    have h3 := h1.trans h2
    exact h3.trans (flL_sk hj 4 0 _ (by omega) (by rw [h3.lo (by decide)]; exact hn))
theorem flZ_tot (hn : Z 2 ≤ 24) (hj : j < 16) {t' : Nat} (ht' : t' < 5) : tot (flZ Z j) t' ≤ tot Z t' := by
  unfold flZ
  by_cases e : Z (47 + 11 * j) = 0
  · rw [if_pos e]; exact Nat.le_refl _
  · rw [if_neg e]
    have h1 : SKz Z (upZ Z (47 + 11 * j) (sty Z j)) := SKz.up (nc_at0 hj)
    have h2 := gs_sk (Z := upZ Z (47 + 11 * j) (sty Z j)) (j := j) (t := 0) (X := prt Z j) (by decide) hn
    have h3 := h1.trans h2
    have ha := prt_all Z j
    refine Nat.le_trans (flL_tot hj ht' 4 0 _ (by omega) (by rw [h3.lo (by decide)]; exact hn) (by rw [h3.lo (by decide), spt_sk h3 hn]; omega)) ?_
    have hg := gs_tot (Z := upZ Z (47 + 11 * j) (sty Z j)) (j := j) (X := prt Z j) (t := 0) (by decide) ht' (Z 2) hn
    by_cases q : t' = 0
    · subst q
      rw [if_pos rfl] at hg
      have h5 := tot_in (Z := Z) (t := 0) (by decide) (it_at0 (j := j) hj) (sty Z j)
      have h6 := spt_sk (P := prt Z j) (j := j) h1 hn
      unfold spt at h6 ha
      omega
    · rw [if_neg q, tot_out (ni_at0 hj ht' q)] at hg
      omega
end P12
