/-! System.arraycopy over rows of ints -/
theorem mh_nn (z : Int32) (hz : ¬ z < 0) : z.toInt = (z.toNatClampNeg : Int) := by
  have hz0 : (0 : Int) ≤ z.toInt := by
    have := Int32.not_lt.mp hz
    simpa using Int32.le_iff_toInt_le.mp this
  show z.toInt = ((z.toInt.toNat : Nat) : Int)
  omega
section MHY
variable {P : mh_E → Prop} {d : Nat} {M : mh_M} {pc : Nat} {lv : List (Option Value)} {rest : List Value} {h : mh_H} {r : Option Value} {h' : mh_H}
theorem st_copy {index a b : Nat} {sp dp n : Int32} (hd : decode M.2.1 pc = .ok (.invokestatic index, 3)) (hl : Cond.methodLink M.1.cls index arraycopyName ∈ mh_T) (hna : Cond.native arraycopyName ∈ mh_T) (hst : Cond.static arraycopyName ∈ mh_T) (hini : Cond.initialized "java/lang/System" ∈ mh_T) (hka : mh_k h a = 0) (hkb : mh_k h b = 0) (hla : a < mh_n h) (hlb : b < mh_n h) (h1 : ¬ sp < 0) (h2 : ¬ dp < 0) (h3 : ¬ n < 0) (h4 : sp.toNatClampNeg + n.toNatClampNeg ≤ mh_l h a) (h5 : dp.toNatClampNeg + n.toNatClampNeg ≤ mh_l h b) (hd1 : 1 ≤ d) (hW : (rest.map fun v => v.category).sum ≤ 8)
    (kk : mh_go P d M (pc + 3) lv rest (mh_cp h a b sp.toNatClampNeg dp.toNatClampNeg n.toNatClampNeg) r h') : mh_go P d M pc lv (.int n :: .int dp :: .ref b :: .int sp :: .ref a :: rest) h r h' := by
  refine mh_chg (h2 := mh_cp h a b sp.toNatClampNeg dp.toNatClampNeg n.toNatClampNeg) rfl rfl kk (fun p l e R s m args below meth c H locs cells slots ls E Q hPE hX hv hP hS hf hlo w => ?_)
  obtain ⟨hx, hb, hml, hr, hlk, hown, hnm, hts, hKU, hSH, hsz⟩ := hX
  have hK := hKU.1
  have ha0 : (mh_ws E h)[a]? = some (mh_ad E a, .inl (mh_cI E, mh_l h a, .inl (mh_i h a))) := (mh_ws_get hla).trans (by rw [mh_cell_i hka])
  have ha1 : (mh_ws E h)[b]? = some (mh_ad E b, .inl (mh_cI E, mh_l h b, .inl (mh_i h b))) := (mh_ws_get hlb).trans (by rw [mh_cell_i hkb])
  have hW' : ((rest.map (mh_c E)).map fun v => v.category).sum ≤ 8 := by rw [mh_c_cats]; exact hW
  intro T hT X
  have hc0 : H[mh_ad E a]? = some (vp_cell (mh_cI E) (mh_l h a, .inl (mh_i h a))) := hP.2.2 a _ ha0
  have hc1 : H[mh_ad E b]? = some (vp_cell (mh_cI E) (mh_l h b, .inl (mh_i h b))) := hP.2.2 b _ ha1
  obtain ⟨-, k0, hk0, cm0, hkk0⟩ := (hK.2 0 _ rfl).1 (mh_l h a) (fun j => .int (mh_i h a j))
  obtain ⟨-, k1, hk1, cm1, hkk1⟩ := (hK.2 0 _ rfl).1 (mh_l h b) (fun j => .int (mh_i h b j))
  obtain ⟨vm', X', step⟩ := X.arraycopy hx hown (hts _ hl) (hts _ hna) (hts _ hst) (hts _ hini) (src := mh_ad E a) (dst := mh_ad E b) (cs := vp_cell (mh_cI E) (mh_l h a, .inl (mh_i h a))) (cd := vp_cell (mh_cI E) (mh_l h b, .inl (mh_i h b))) (srcPos := sp) (destPos := dp) (n := n) (by rw [hT]; exact hc0) (by rw [hT]; exact hc1)
    (fun _ h => by cases h) (fun _ h => by cases h) (fun h => by cases h) (fun h => by cases h) hk0 hk1 hkk0 hkk1 (by simp [refKind]) h1 h2 h3
    (by rw [mh_nn sp h1, mh_nn n h3]; show ¬ _ > ((arrV (mh_cI E) (mh_l h a) (fun j => .int (mh_i h a j))).slots.size : Int); rw [arrV_size]; omega)
    (by rw [mh_nn dp h2, mh_nn n h3]; show ¬ _ > ((arrV (mh_cI E) (mh_l h b) (fun j => .int (mh_i h b j))).slots.size : Int); rw [arrV_size]; omega)
    (fun vm₁ _ i hi => by
      have e : (vp_cell (mh_cI E) (mh_l h a, .inl (mh_i h a))).slots.getD (sp.toNatClampNeg + i) .null = .int (mh_i h a (sp.toNatClampNeg + i)) := by
        show (arrV (mh_cI E) (mh_l h a) (fun j => .int (mh_i h a j))).slots.getD _ _ = _
        rw [Array.getD_eq_getD_getElem?, arrV_read _ _ (by omega)]
        rfl
      refine ⟨?_, ?_⟩
      · rw [e]
        rfl
      · rw [e]
        exact trivial)
    (g := F0 m pc ls ((.int n :: .int dp :: .ref b :: .int sp :: .ref a :: rest : List Value).map (mh_c E))) rfl (by rw [hml]; exact hv.1) (rest := rest.map (mh_c E)) rfl (by rw [hb]; exact hd) (by omega) (by
      show 2 * 0 + _ + _ ≤ R.locals
      have e9 : nativeFrameWords "java/lang/System" "arraycopy" 5 ≤ 40 := by decide
      omega)
  have e1 : copied (vp_cell (mh_cI E) (mh_l h a, .inl (mh_i h a))) (vp_cell (mh_cI E) (mh_l h b, .inl (mh_i h b))) sp dp n = vp_cell (mh_cI E) (mh_l h b, .inl (va_cpy (mh_i h a) (mh_i h b) sp.toNatClampNeg dp.toNatClampNeg n.toNatClampNeg)) := va_copied (fun z => .int z) (mh_cI E) (mh_cI E) (mh_i h a) (mh_i h b) h4
  rw [e1] at X' step
  generalize hcN : vp_cell (mh_cI E) (mh_l h b, .inl (va_cpy (mh_i h a) (mh_i h b) sp.toNatClampNeg dp.toNatClampNeg n.toNatClampNeg)) = cN at X' step
  have hlt : mh_ad E b < H.size := (Array.getElem?_eq_some_iff.mp hc1).1
  have hheap : ((T.setVm vm').setCell (mh_ad E b) cN).heap = H.setIfInBounds (mh_ad E b) cN := by rw [← hT]; rfl
  have oq : ∀ q : Nat, q ≠ mh_ad E b → (H.setIfInBounds (mh_ad E b) cN)[q]? = H[q]? := fun q hq => by simp [Array.getElem?_setIfInBounds, Ne.symm hq]
  have hA : mh_A E (mh_ad E b) := mh_inA hlb hP.2.1
  obtain ⟨t, a1, b1⟩ := w _ _ (hP.set (H1 := H.setIfInBounds (mh_ad E b) cN) (k := b) (c := .inl (mh_cI E, mh_l h b, .inl (va_cpy (mh_i h a) (mh_i h b) sp.toNatClampNeg dp.toNatClampNeg n.toNatClampNeg))) (by simp) rfl (by
      rw [mh_cell_i (show mh_k (mh_cp h a b sp.toNatClampNeg dp.toNatClampNeg n.toNatClampNeg) b = 0 from hkb)]
      have e2 : mh_i (mh_cp h a b sp.toNatClampNeg dp.toNatClampNeg n.toNatClampNeg) b = va_cpy (mh_i h a) (mh_i h b) sp.toNatClampNeg dp.toNatClampNeg n.toNatClampNeg := if_pos rfl
      rw [e2]
      rfl) (fun q hq => mh_cp_other hq) (hP.2.2.set (mh_dis hP.2.1) ha1 (by
      show (H.setIfInBounds (mh_ad E b) cN)[mh_ad E b]? = some (vp_cell _ _)
      rw [hcN]
      simp [Array.getElem?_setIfInBounds, hlt]) oq)) ⟨by simp; exact hS.1, fun q g1 g2 => by
      rw [oq q (fun e => g2 (by rw [e]; exact hA))]
      exact hS.2.1 q g1 g2, fun q hq => by
      rcases List.mem_append.mp hq with h | h
      · exact hS.2.2 q h
      · obtain ⟨z, -, hz⟩ := List.mem_map.mp h
        rw [← hz]
        exact hA⟩ _ hheap X'
  exact ⟨t, step t a1, b1⟩
end MHY
