/-! one hour -/
section P18
variable {h : mh_H} {b n N w p now J j c x t A S m o y H : Nat} {G F0 : F2} {C C' C0 : C2} {Z Z' Z'' Z0 : Z1} {T τ T' τ' P P' X X' : Nat → Nat} {K : Nat → Nat} {MO : Option Nat}
def FW (J n : Nat) (Z Z' : Z1) : Prop := ∀ z, (44 + 11 * J ≤ z ∧ z < 220) ∨ (220 + 215 * n ≤ z ∧ z < 5380) ∨ (5380 + 96 * J ≤ z ∧ z < 6916) → Z' z = Z z
theorem FW.trans (a : FW J n Z Z') (c : FW J n Z' Z'') : FW J n Z Z'' := fun z hz => (c z hz).trans (a z hz)
theorem FZ.trans (a : FZ J n Z Z') (c : FZ J n Z' Z'') : FZ J n Z Z'' := fun z hz => (c z hz).trans (a z hz)
theorem FZ.fw (hn : n ≤ 24) (a : FZ J n Z Z') : FW J n Z Z' := fun z hz => a z (by omega)
theorem FZ.up {z : Nat} (hz : z < 44 + 11 * J) (hJ : J ≤ 16) : FZ J n Z (upZ Z z x) := fun i hi => upZ_n (by omega)
def oZ (c : Nat) (Z : Z1) : Prop := ∀ j, j < 16 → ∀ r, r < 24 → Z (5380 + 4 * (24 * j + r) + c) = 0
theorem FZ.oz (hn : n ≤ 24) (a : FZ J n Z Z') (hc : c < 4) (q : oZ c Z) : oZ c Z' := fun j hj r hr => by rw [a _ (Or.inr ⟨by omega, by omega⟩)]; exact q j hj r hr
theorem riC_fw (hj : j < J) (hJ : J ≤ 16) (hc : c < 4) : FW J n Z (riC Z j c) := fun z hz => by
  have hr : Z 0 % 24 < 24 := Nat.mod_lt _ (by decide)
  have hk := rk_or (Z := Z) (j := j)
  unfold riC
  rw [upZ_n (by omega), upZ_n (by omega), upZ_n (by omega)]
theorem riL_fw (hj : j < J) (hJ : J ≤ 16) : ∀ m c Z, c + m = 4 → FW J n Z (riL j m c Z) := by
  intro m
  induction m with
  | zero => intro c Z _ z _; rfl
  | succ m ih => intro c Z hc; rw [riL]; exact (riC_fw hj hJ (by omega)).trans (ih _ _ (by omega))
theorem riZ_fw (hj : j < J) (hJ : J ≤ 16) : FW J n Z (riZ Z j) := by
  unfold riZ
  refine FW.trans (fun z hz => ?_) (riL_fw hj hJ 4 0 _ rfl)
  unfold riA
  rw [upZ_n (by omega), upZ_n (by omega), upZ_n (by omega)]
theorem riC_oz {c' : Nat} (hj : j < 16) (hc : c < 4) (hc' : c' < 4) (h0 : tot Z (1 + c) = 0) (q : oZ c Z) : oZ c (riC Z j c') := fun i hi r hr => by
  have hk := rk_or (Z := Z) (j := j)
  unfold riC
  rw [upZ_n (by omega), upZ_n (by omega)]
  by_cases e : 5380 + 4 * (24 * i + r) + c = 5380 + 4 * (24 * j + Z 0 % 24) + c'
  · have ec : c' = c := by omega
    have := tot_le (Z := Z) (it_at (j := j) (c := c) hj)
    unfold upZ
    rw [if_pos e, ec]
    omega
  · rw [upZ_n e]; exact q i hi r hr
theorem riL_oz (hj : j < 16) (hc : c < 4) : ∀ m k Z, k + m = 4 → tot Z (1 + c) = 0 → oZ c Z → oZ c (riL j m k Z) := by
  intro m
  induction m with
  | zero => intro k Z _ _ q; exact q
  | succ m ih =>
    intro k Z hk h0 q
    rw [riL]
    exact ih _ _ (by omega) (by have := riC_tot (Z := Z) (j := j) (c := k) hj (by omega) (t := 1 + c) (by omega); omega) (riC_oz hj hc (by omega) h0 q)
theorem riZ_oz (hj : j < 16) (hc : c < 4) (h0 : tot Z (1 + c) = 0) (q : oZ c Z) : oZ c (riZ Z j) := by
  unfold riZ
  refine riL_oz hj hc 4 0 _ rfl ?_ ?_
  · unfold riA
    have e1 := tot_dn (Z := upZ (upZ Z (48 + 11 * j) (Z (47 + 11 * j))) (49 + 11 * j) (Z (49 + 11 * j) + Z (47 + 11 * j))) (z := 47 + 11 * j) (t := 1 + c) (by omega)
    rw [tot_out (ni_49 hj (by omega)), tot_out (ni_48 hj (by omega))] at e1
    omega
  · intro i hi r hr
    unfold riA
    rw [upZ_n (by omega), upZ_n (by omega), upZ_n (by omega)]
    exact q i hi r hr
theorem gs_fz (ht : t < 5) (hm : m ≤ n) (hn : n ≤ 24) : FZ J n Z (gsm Z j t X m) := fun z hz => by
  have hq : Z 0 % 41 < 41 := Nat.mod_lt _ (by decide)
  unfold gsm
  rw [sumR_z m 0 (fun w _ hw => by
    by_cases e : Z (221 + 215 * w) = j
    · rw [if_pos e]
      unfold dlt
      rw [if_neg (by omega), if_neg]
      unfold tgt
      split <;> (try split) <;> omega
    · rw [if_neg e])]
  rfl
theorem flC_fz (hz : Z 2 = n) (hn : n ≤ 24) (hj : j < J) (hJ : J ≤ 16) (hc : c < 4) : FZ J n Z (flC A S P MO Z j c) := by
  unfold flC
  exact (gs_fz (by omega) (by omega) hn).trans (FZ.up (by omega) hJ)
theorem flL_fz (hn : n ≤ 24) (hj : j < J) (hJ : J ≤ 16) : ∀ m c Z, c + m = 4 → Z 2 = n → FZ J n Z (flL A S P MO j m c Z) := by
  intro m
  induction m with
  | zero => intro c Z _ _ z _; rfl
  | succ m ih =>
    intro c Z hc hz
    have hs := flC_sk (Z := Z) (A := A) (S := S) (P := P) (MO := MO) (j := j) (c := c) (by omega) (by omega) (by omega)
    rw [flL]
    exact (flC_fz hz hn hj hJ (by omega)).trans (ih _ _ (by omega) (by rw [hs.lo (by decide)]; exact hz))
theorem flZ_fz (hz : Z 2 = n) (hn : n ≤ 24) (hj : j < J) (hJ : J ≤ 16) : FZ J n Z (flZ Z j) := by
  unfold flZ
  by_cases e : Z (47 + 11 * j) = 0
  · rw [if_pos e]; exact fun _ _ => rfl
  · rw [if_neg e]
    have h1 : SKz Z (upZ Z (47 + 11 * j) (sty Z j)) := SKz.up (nc_at0 (by omega))
    have h2 := gs_sk (Z := upZ Z (47 + 11 * j) (sty Z j)) (j := j) (t := 0) (X := prt Z j) (m := Z 2) (by decide) (by omega)
    have s2 := (h1.trans h2).lo (z := 2) (by decide)
    exact ((FZ.up (by omega) hJ).trans (gs_fz (by decide) (by omega) hn)).trans (flL_fz hn hj hJ 4 0 _ rfl (by rw [s2]; exact hz))
theorem KK_fw (hz : Z 2 = n) (hn : n ≤ 24) (hJ : J ≤ 16) : ∀ k, k ≤ J → FW J n Z (KK K Z k) := by
  intro k
  induction k with
  | zero => intro _ z _; rfl
  | succ k ih =>
    intro hk
    have i := KK_sk (Z := Z) (K := K) (by omega) k (by omega)
    rw [KK]
    split
    · exact (ih (by omega)).trans (riZ_fw (by omega) hJ)
    · exact (ih (by omega)).trans ((flZ_fz (by rw [i.lo (by decide)]; exact hz) hn (by omega) hJ).fw hn)
theorem KK_oz (hz : Z 2 = n) (hn : n ≤ 24) (hc : c < 4) (h0 : tot Z (1 + c) = 0) (q : oZ c Z) : ∀ k, k ≤ 16 → oZ c (KK K Z k) := by
  intro k
  induction k with
  | zero => intro _; exact q
  | succ k ih =>
    intro hk
    have i := KK_sk (Z := Z) (K := K) (by omega) k (by omega)
    rw [KK]
    split
    · exact riZ_oz (by omega) hc (by have := KK_tot (Z := Z) (K := K) (t := 1 + c) (by omega) (by omega) k (by omega); omega) (ih (by omega))
    · exact (flZ_fz (J := 16) (n := n) (by rw [i.lo (by decide)]; exact hz) hn (by omega) (by omega)).oz hn hc (ih (by omega))
theorem WY.rx {h' : mh_H} (hx : RX h h') (q : WY h F0 Z w p) : WY h' F0 Z w p := by
  obtain ⟨r1, r2, r3, r4⟩ := hx
  obtain ⟨q1, q2, q3, q4⟩ := q
  exact ⟨by rw [r4 5 w (by decide)]; exact q1, by rw [r1]; exact q2, by rw [r3]; exact q3, by rw [r3]; exact q4⟩
theorem tk_now : tk (upZ Z 0 x) w = tk Z w := by
  unfold tk
  rw [upZ_n (by omega), upZ_n (by omega)]
theorem KZ.nw (hK : KZ Z) (hx : x ≤ 1100) : KZ (upZ Z 0 x) := by
  have e : ∀ z, z ≠ 0 → upZ Z 0 x z = Z z := fun z hz => upZ_n hz
  obtain ⟨k0, k1, k2, k5, kf, kj, kw⟩ := hK
  refine ⟨by rw [upZ_s]; exact hx, by rw [e 1 (by decide)]; exact k1, by rw [e 2 (by decide)]; exact k2, by rw [e 5 (by decide)]; exact k5, fun c hc => by rw [e _ (by omega)]; exact kf c hc, fun j hj => ?_, fun i hi => ?_⟩
  · rw [e 1 (by decide)] at hj
    rw [e _ (by omega)]; exact kj j hj
  · rw [e 2 (by decide)] at hi
    have := kw i hi
    rw [e (220 + 215 * i) (by omega), e (221 + 215 * i) (by omega), e (222 + 215 * i) (by omega), e (223 + 215 * i) (by omega), e (224 + 215 * i) (by omega), e 1 (by decide), e _ (by omega), e _ (by omega)]
    exact this
theorem tot_now (ht : t < 5) : tot (upZ Z 0 x) t = tot Z t := by
  have hni : ¬ isT t 0 := by
    rintro (⟨j', j1, h⟩ | ⟨w', w1, h⟩ | ⟨w', q', w1, q1, h⟩)
    · split at h <;> omega
    · omega
    · omega
  exact tot_out hni x
theorem hour_ok (hs : Sh h) (hb : b = 6 ∨ b = 63) (hN : 10000 ≤ N) (F0 : F2) (hK : KZ Z) (h0 : Z 0 + 1 ≤ 1100) (hWs0 : ∀ w, w < Z 2 → ∃ p, WY h F0 Z w p) (hX : R_txt TXt C Z 0 25) (e1 : C 1 0 = Z 1) (e1' : C 1 1 = Z 2) (e2 : ∀ j, j < 16 → C 2 j = Z (44 + 11 * j)) (hR : HR b (Z 2) (tk Z) (fun _ => Z 0) C Z) (hB0 : tot Z 0 + 15984 ≤ 20000000) (hB : ∀ c, c < 4 → tot Z (1 + c) ≤ 400000) : ∃ h2 C' Z', D_X8_passHour N (mh_w h (cz F0 C)) b 1 73 = some (mh_w h2 (cz F0 C')) ∧ (∀ (h' : mh_H) (F1 : F2), Sh h' → ∃ F2, D_X12_hour N (mh_w h' (gz F1 Z)) 86 = some (mh_w h' (gz F2 Z')) ∧ ∀ a, a ≠ 92 → a ≠ 95 → a ≠ 96 → F2 a = F1 a) ∧ Sh h2 ∧ RX h h2 ∧ HR b (Z' 2) (tk Z') (fun _ => Z' 0) C' Z' ∧ KZ Z' ∧ Z' 0 = Z 0 + 1 ∧ (∀ z, cst z → z ≠ 0 → Z' z = Z z) ∧ (∀ a, a < b ∨ b + 9 < a → a ≠ 73 → (a < 74 ∨ 77 < a) → C' a = C a) ∧ tot Z' 0 ≤ tot Z 0 + 15984 ∧ (∀ c, c < 4 → tot Z' (1 + c) ≤ tot Z (1 + c)) ∧ FW (Z 1) (Z 2) Z Z' ∧ ∀ c, c < 4 → tot Z (1 + c) = 0 → oZ c Z → oZ c Z' := by
  have n24 := hK.2.2.1
  have j16 := hK.2.1
  have hTb := hK.tb
  have hWs : ∀ Z' : Z1, SKz Z Z' → ∀ w, w < Z 2 → ∃ p, WY h F0 Z' w p := fun Z' hS w hw => by
    obtain ⟨p, hp⟩ := hWs0 w hw
    exact ⟨p, hp.sk hS (by omega)⟩
  obtain ⟨C1, Za, l1, l2, l3, l4, l5, l6, l7⟩ := lvA (N := N) (T := tk Z) (now := Z 0) hs hb hN hWs (Z 2) 0 C Z (by omega) (SKz.refl _) hK rfl (fun _ _ => rfl) rfl e1' (hR.cg (fun x hx => ⟨rfl, by rw [if_neg (by omega)]⟩)) ⟨by omega, hB⟩
  have a0 := l4.lo (z := 0) (by decide)
  have a1 := l4.lo (z := 1) (by decide)
  have a2 := l4.lo (z := 2) (by decide)
  obtain ⟨h2, C2', Zb, r1, r2, r3, r4, r5, r6, r7, r8, r9, r10⟩ := rnL (N := N) (J := Z 1) (now := Z 0) (F0 := F0) hb hN hX hTb (Z 1) 0 h C1 Za (by omega) hs l4 (hK.sk l4) a1 a0 (by rw [l5 1 (by omega)]; exact e1) (fun j hj => by rw [l5 2 (by omega), l4.jn hj]; exact e2 j hj) (l5 25 (by omega)) (l5 26 (by omega)) l3
  have hSb := l4.trans r6
  have b0 := hSb.lo (z := 0) (by decide)
  have b1 := hSb.lo (z := 1) (by decide)
  have b2 := hSb.lo (z := 2) (by decide)
  have hKb := hK.sk hSb
  have tb0 : tot Zb 0 ≤ tot Z 0 + 15984 := by have := l6 0 (by decide); omega
  have tbc : ∀ c, c < 4 → tot Zb (1 + c) ≤ tot Z (1 + c) := fun c hc => by rw [r9 (1 + c) (by omega) (by omega)]; exact l6 (1 + c) (by omega)
  have hBb : TBd Zb := ⟨by omega, fun c hc => Nat.le_trans (tbc c hc) (hB c hc)⟩
  have cf : ∀ a, a < b ∨ b + 8 < a → a ≠ 73 → (a < 74 ∨ 77 < a) → C2' a = C a := fun a ha q1 q2 => by rw [r7 a ha q1 q2, l5 a ha]
  have hWb : ∀ Z', SKz Zb Z' → ∀ w, w < Z 2 → ∃ p, WY h2 F0 Z' w p := fun Z' hS w hw => by
    obtain ⟨p, hp⟩ := hWs Z' (hSb.trans hS) w hw
    exact ⟨p, hp.rx r4⟩
  have hKk : ∀ j, j < Z 1 → Zb (44 + 11 * j) = (fun j => Z (44 + 11 * j)) j := fun j hj => hSb.jn (by omega)
  obtain ⟨C3, c1, c2, c3⟩ := c_72 (N := N) (n := Z 2) (T := tk Z) (J := Z 1) (K := fun j => Z (44 + 11 * j)) r3 hb hN F0 hKb hWb b2 (fun x hx => tk_sk hSb (by omega)) hKk b1 hBb (Z 1) 0 C2' (by omega) (by rw [cf 1 (by omega) (by decide) (by decide)]; exact e1) (by rw [cf 1 (by omega) (by decide) (by decide)]; exact e1') (fun j hj => by rw [cf 2 (by omega) (by decide) (by decide), hSb.jn hj]; exact e2 j hj) (by rw [b0]; exact r5)
  have hSk := KK_sk (Z := Zb) (K := fun j => Z (44 + 11 * j)) (by omega) (Z 1) j16
  have hSd := hSb.trans hSk
  have ke := KK_eq (Z := Zb) (K := fun j => Z (44 + 11 * j)) (by omega) (Z 1) j16
  have kt := fun t (ht : t < 5) => KK_tot (Z := Zb) (K := fun j => Z (44 + 11 * j)) (t := t) (by omega) ht (Z 1) j16
  have kf := KK_fw (Z := Zb) (K := fun j => Z (44 + 11 * j)) (n := Z 2) (J := Z 1) b2 n24 j16 (Z 1) (Nat.le_refl _)
  have ko := fun c (hc : c < 4) (h0 : tot Zb (1 + c) = 0) (q : oZ c Zb) => KK_oz (Z := Zb) (K := fun j => Z (44 + 11 * j)) (n := Z 2) b2 n24 hc h0 q (Z 1) j16
  rw [b0] at c2
  refine ⟨h2, C3, upZ (KK (fun j => Z (44 + 11 * j)) Zb (Z 1)) 0 (Z 0 + 1), ?_, fun h' F1 hs' => ?_, r3, r4, ?_, (hK.sk hSd).nw h0, upZ_s _ _ _, fun z hz hne => by rw [upZ_n hne]; exact hSd z hz, fun a ha q1 q2 => by rw [c3 a ha]; exact cf a (by omega) q1 q2, ?_, fun c hc => ?_, ?_, fun c hc h0 q => ?_⟩
  · unfold D_X8_passHour
    refine (l1 N (by omega)).trans ((r1 N (by omega)).trans (c1 N (by omega)))
  · obtain ⟨F2', s1, s2⟩ := r2 N h' F1 (by omega) hs'
    have m7 := m_70 (N := N) (F0 := F2') hs' hN hKb hKk b1 (Z 1) 0 N (by omega) (by omega)
    have hSr := RRj_sk (Z := Zb) (K := fun j => Z (44 + 11 * j)) (Z 1) j16
    obtain ⟨F3, t1, t2⟩ := m_101 (N := N) (J := Z 1) (K := fun j => Z (44 + 11 * j)) hs' hN (hKb.sk hSr) (fun j hj => by rw [hSr.jn (by omega)]; exact hKk j hj) (by rw [hSr.lo (by decide)]; exact b1) ⟨Nat.le_trans (RRj_tot (by decide) (Z 1) j16) hBb.1, fun c hc => Nat.le_trans (RRj_tot (by omega) (Z 1) j16) (hBb.2 c hc)⟩ (Z 1) 0 F2' (by omega)
    refine ⟨F3, ?_, fun a q1 q2 q3 => by rw [t2 a q1, s2 a q2 q3]⟩
    have t1 := t1 N (by omega)
    rw [← ke, hSr.lo (by decide), b0] at t1
    unfold D_X12_hour
    exact (l2 N h' F1 (by omega) hs').trans (s1.trans (m7.trans t1))
  · rw [upZ_n (show 2 ≠ 0 by decide), upZ_s, hSd.lo (by decide)]
    exact c2.cg (fun x hx => ⟨by rw [tk_now]; exact tk_sk hSd (by omega), rfl⟩)
  · rw [tot_now (by decide)]
    exact Nat.le_trans (kt 0 (by decide)) tb0
  · rw [tot_now (by omega)]
    exact Nat.le_trans (kt (1 + c) (by omega)) (tbc c hc)
  · refine ((l7.fw n24).trans ((r10.fw n24).trans kf)).trans (fun z hz => upZ_n (by omega))
  · have q1 := l7.oz n24 hc q
    have q2 := r10.oz n24 hc q1
    have q3 := ko c hc (by have := tbc c hc; omega) q2
    intro i hi r hr
    rw [upZ_n (by omega)]
    exact q3 i hi r hr
end P18
