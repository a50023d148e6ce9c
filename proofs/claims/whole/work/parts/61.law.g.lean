def D_L_law_1901 (N : Nat) (L : Nat) (xs : Nat → Int32) (k18 : mh_H → Nat → Nat → Int32 → Option (Int32 × mh_H)) (h : mh_H) (l1 : Nat) (l2 : Nat) (l3 : Int32) : Option (Int32 × mh_H) :=
  k18 h l1 l2 (l3 + Int32.ofInt (6))
set_option maxHeartbeats 4000000 in
set_option maxRecDepth 100000 in
theorem T_L_law_1901 {P : mh_E → Prop} {N d : Nat} (hd : 47 ≤ d) {L : Nat} {xs : Nat → Int32} (hE : ∀ E, P E → mh_L E = L ∧ mh_xs E = xs) {z : (Int32 × mh_H)} {k18 : mh_H → Nat → Nat → Int32 → Option (Int32 × mh_H)} (hk18 : ∀ (h : mh_H) (l1 : Nat) (l2 : Nat) (l3 : Int32), k18 h l1 l2 l3 = some z → mh_go P d mL_law 18 [some (.ref 1000000000), some (.ref l1), some (.ref l2), some (.int l3)] [] h (some (.int z.1)) z.2) {h : mh_H} {l1 : Nat} {l2 : Nat} {l3 : Int32} (hq : D_L_law_1901 N L xs k18 h l1 l2 l3 = some z) : mh_go P d mL_law 1901 [some (.ref 1000000000), some (.ref l1), some (.ref l2), some (.int l3)] [] h (some (.int z.1)) z.2 := by
  unfold D_L_law_1901 at hq
  refine st_iinc (pc := 1901) (lv' := [some (.ref 1000000000), some (.ref l1), some (.ref l2), some (.int (l3 + Int32.ofInt (6)))]) dL_law_1901 rfl rfl (by decide) rfl ?_
  refine st_goto (pc := 1904) (tgt := 18) dL_law_1904 (by decide) ?_
  exact hk18 _ _ _ _ hq
def D_L_law_228 (N : Nat) (L : Nat) (xs : Nat → Int32) (k18 : mh_H → Nat → Nat → Int32 → Option (Int32 × mh_H)) (h : mh_H) (l1 : Nat) (l2 : Nat) (l3 : Int32) : Option (Int32 × mh_H) :=
  sI L (l3 + (1 : Int32)) <|
  sI L (l3 + (2 : Int32)) <|
  sI L (l3 + (3 : Int32)) <|
  kO h 11 l1 <|
  (D_X11_joint N h l1 (xs (l3 + (1 : Int32)).toNatClampNeg) (xs (l3 + (2 : Int32)).toNatClampNeg) (xs (l3 + (3 : Int32)).toNatClampNeg)).bind fun q1 =>
  sI L (l3 + (1 : Int32)) <|
  sI L (l3 + (2 : Int32)) <|
  sI L (l3 + (3 : Int32)) <|
  kO q1.2 12 l2 <|
  (D_X12_joint_ N q1.2 l2 (xs (l3 + (1 : Int32)).toNatClampNeg) (xs (l3 + (2 : Int32)).toNatClampNeg) (xs (l3 + (3 : Int32)).toNatClampNeg)).bind fun q2 =>
  if q1.1 = q2.1 then (D_L_law_1901 N L xs k18 q2.2 l1 l2 l3)
  else (zB (0 : Int32) q2.2)
set_option maxHeartbeats 4000000 in
set_option maxRecDepth 100000 in
theorem T_L_law_228 {P : mh_E → Prop} {N d : Nat} (hd : 47 ≤ d) {L : Nat} {xs : Nat → Int32} (hE : ∀ E, P E → mh_L E = L ∧ mh_xs E = xs) {z : (Int32 × mh_H)} {k18 : mh_H → Nat → Nat → Int32 → Option (Int32 × mh_H)} (hk18 : ∀ (h : mh_H) (l1 : Nat) (l2 : Nat) (l3 : Int32), k18 h l1 l2 l3 = some z → mh_go P d mL_law 18 [some (.ref 1000000000), some (.ref l1), some (.ref l2), some (.int l3)] [] h (some (.int z.1)) z.2) {h : mh_H} {l1 : Nat} {l2 : Nat} {l3 : Int32} (hq : D_L_law_228 N L xs k18 h l1 l2 l3 = some z) : mh_go P d mL_law 228 [some (.ref 1000000000), some (.ref l1), some (.ref l2), some (.int l3)] [] h (some (.int z.1)) z.2 := by
  unfold D_L_law_228 at hq
  refine st_aload_n (pc := 228) dL_law_228 rfl ?_
  refine st_aload_n (pc := 229) dL_law_229 rfl ?_
  refine st_iload_n (pc := 230) dL_law_230 rfl ?_
  refine st_iconst (pc := 231) (v := (1 : Int32)) dL_law_231 rfl ?_
  refine st_iadd (pc := 232) dL_law_232 ?_
  refine bd_sld (pc := 233) hq dL_law_233 hE (fun hq => ?_)
  refine st_aload_n (pc := 234) dL_law_234 rfl ?_
  refine st_iload_n (pc := 235) dL_law_235 rfl ?_
  refine st_iconst (pc := 236) (v := (2 : Int32)) dL_law_236 rfl ?_
  refine st_iadd (pc := 237) dL_law_237 ?_
  refine bd_sld (pc := 238) hq dL_law_238 hE (fun hq => ?_)
  refine st_aload_n (pc := 239) dL_law_239 rfl ?_
  refine st_iload_n (pc := 240) dL_law_240 rfl ?_
  refine st_iconst (pc := 241) (v := (3 : Int32)) dL_law_241 rfl ?_
  refine st_iadd (pc := 242) dL_law_242 ?_
  refine bd_sld (pc := 243) hq dL_law_243 hE (fun hq => ?_)
  obtain ⟨⟨hbq1, hkq1⟩, hq⟩ := mh_oi hq
  obtain ⟨q1, e1, hq⟩ := mh_ob hq
  refine st_invV (pc := 244) (ci := 11) (vs := [.int (xs (l3 + (1 : Int32)).toNatClampNeg), .int (xs (l3 + (2 : Int32)).toNatClampNeg), .int (xs (l3 + (3 : Int32)).toNatClampNeg)]) (rest := []) (st2 := [.int q1.1]) dL_law_244 okX11_joint (by decide) hkq1 hbq1 wd_319 wd_320 wd_321 pdX11_joint rfl rfl rfl rfl (Nat.le_trans (by decide) hd) (Nat.le_of_ble_eq_true rfl) (T_X11_joint (Nat.le_refl _) e1) rfl ?_
  refine st_aload_n (pc := 247) dL_law_247 rfl ?_
  refine st_aload_n (pc := 248) dL_law_248 rfl ?_
  refine st_iload_n (pc := 249) dL_law_249 rfl ?_
  refine st_iconst (pc := 250) (v := (1 : Int32)) dL_law_250 rfl ?_
  refine st_iadd (pc := 251) dL_law_251 ?_
  refine bd_sld (pc := 252) hq dL_law_252 hE (fun hq => ?_)
  refine st_aload_n (pc := 253) dL_law_253 rfl ?_
  refine st_iload_n (pc := 254) dL_law_254 rfl ?_
  refine st_iconst (pc := 255) (v := (2 : Int32)) dL_law_255 rfl ?_
  refine st_iadd (pc := 256) dL_law_256 ?_
  refine bd_sld (pc := 257) hq dL_law_257 hE (fun hq => ?_)
  refine st_aload_n (pc := 258) dL_law_258 rfl ?_
  refine st_iload_n (pc := 259) dL_law_259 rfl ?_
  refine st_iconst (pc := 260) (v := (3 : Int32)) dL_law_260 rfl ?_
  refine st_iadd (pc := 261) dL_law_261 ?_
  refine bd_sld (pc := 262) hq dL_law_262 hE (fun hq => ?_)
  obtain ⟨⟨hbq2, hkq2⟩, hq⟩ := mh_oi hq
  obtain ⟨q2, e2, hq⟩ := mh_ob hq
  refine st_invV (pc := 263) (ci := 12) (vs := [.int (xs (l3 + (1 : Int32)).toNatClampNeg), .int (xs (l3 + (2 : Int32)).toNatClampNeg), .int (xs (l3 + (3 : Int32)).toNatClampNeg)]) (rest := [.int q1.1]) (st2 := [.int q2.1, .int q1.1]) dL_law_263 okX12_joint_ (by decide) hkq2 hbq2 wd_1265 wd_1266 wd_1267 pdX12_joint_ rfl rfl rfl rfl (Nat.le_trans (by decide) hd) (Nat.le_of_ble_eq_true rfl) (T_X12_joint_ (Nat.le_refl _) e2) rfl ?_
  refine bd_icmp_eq (pc := 266) (tgt := 1901) hq dL_law_266 (by decide) (fun _ hq => ?_) (fun _ hq => ?_)
  ·
    exact T_L_law_1901 hd hE hk18 hq
  ·
    refine st_iconst (pc := 269) (v := (0 : Int32)) dL_law_269 rfl ?_
    exact bd_zret (pc := 270) hq dL_law_270 rfl
def D_L_law_271 (N : Nat) (L : Nat) (xs : Nat → Int32) (k18 : mh_H → Nat → Nat → Int32 → Option (Int32 × mh_H)) (h : mh_H) (l1 : Nat) (l2 : Nat) (l3 : Int32) : Option (Int32 × mh_H) :=
  sI L (l3 + (1 : Int32)) <|
  sI L (l3 + (2 : Int32)) <|
  kO h 11 l1 <|
  (D_X11_jointIs N h l1 (xs (l3 + (1 : Int32)).toNatClampNeg) (xs (l3 + (2 : Int32)).toNatClampNeg)).bind fun q1 =>
  sI L (l3 + (1 : Int32)) <|
  sI L (l3 + (2 : Int32)) <|
  kO q1.2 12 l2 <|
  (D_X12_jointIs N q1.2 l2 (xs (l3 + (1 : Int32)).toNatClampNeg) (xs (l3 + (2 : Int32)).toNatClampNeg)).bind fun q2 =>
  if q1.1 = q2.1 then (D_L_law_1901 N L xs k18 q2.2 l1 l2 l3)
  else (zB (0 : Int32) q2.2)
set_option maxHeartbeats 4000000 in
set_option maxRecDepth 100000 in
theorem T_L_law_271 {P : mh_E → Prop} {N d : Nat} (hd : 47 ≤ d) {L : Nat} {xs : Nat → Int32} (hE : ∀ E, P E → mh_L E = L ∧ mh_xs E = xs) {z : (Int32 × mh_H)} {k18 : mh_H → Nat → Nat → Int32 → Option (Int32 × mh_H)} (hk18 : ∀ (h : mh_H) (l1 : Nat) (l2 : Nat) (l3 : Int32), k18 h l1 l2 l3 = some z → mh_go P d mL_law 18 [some (.ref 1000000000), some (.ref l1), some (.ref l2), some (.int l3)] [] h (some (.int z.1)) z.2) {h : mh_H} {l1 : Nat} {l2 : Nat} {l3 : Int32} (hq : D_L_law_271 N L xs k18 h l1 l2 l3 = some z) : mh_go P d mL_law 271 [some (.ref 1000000000), some (.ref l1), some (.ref l2), some (.int l3)] [] h (some (.int z.1)) z.2 := by
  unfold D_L_law_271 at hq
  refine st_aload_n (pc := 271) dL_law_271 rfl ?_
  refine st_aload_n (pc := 272) dL_law_272 rfl ?_
  refine st_iload_n (pc := 273) dL_law_273 rfl ?_
  refine st_iconst (pc := 274) (v := (1 : Int32)) dL_law_274 rfl ?_
  refine st_iadd (pc := 275) dL_law_275 ?_
  refine bd_sld (pc := 276) hq dL_law_276 hE (fun hq => ?_)
  refine st_aload_n (pc := 277) dL_law_277 rfl ?_
  refine st_iload_n (pc := 278) dL_law_278 rfl ?_
  refine st_iconst (pc := 279) (v := (2 : Int32)) dL_law_279 rfl ?_
  refine st_iadd (pc := 280) dL_law_280 ?_
  refine bd_sld (pc := 281) hq dL_law_281 hE (fun hq => ?_)
  obtain ⟨⟨hbq1, hkq1⟩, hq⟩ := mh_oi hq
  obtain ⟨q1, e1, hq⟩ := mh_ob hq
  refine st_invV (pc := 282) (ci := 11) (vs := [.int (xs (l3 + (1 : Int32)).toNatClampNeg), .int (xs (l3 + (2 : Int32)).toNatClampNeg)]) (rest := []) (st2 := [.int q1.1]) dL_law_282 okX11_jointIs (by decide) hkq1 hbq1 wd_335 wd_336 wd_337 pdX11_jointIs rfl rfl rfl rfl (Nat.le_trans (by decide) hd) (Nat.le_of_ble_eq_true rfl) (T_X11_jointIs (Nat.le_refl _) e1) rfl ?_
  refine st_aload_n (pc := 285) dL_law_285 rfl ?_
  refine st_aload_n (pc := 286) dL_law_286 rfl ?_
  refine st_iload_n (pc := 287) dL_law_287 rfl ?_
  refine st_iconst (pc := 288) (v := (1 : Int32)) dL_law_288 rfl ?_
  refine st_iadd (pc := 289) dL_law_289 ?_
  refine bd_sld (pc := 290) hq dL_law_290 hE (fun hq => ?_)
  refine st_aload_n (pc := 291) dL_law_291 rfl ?_
  refine st_iload_n (pc := 292) dL_law_292 rfl ?_
  refine st_iconst (pc := 293) (v := (2 : Int32)) dL_law_293 rfl ?_
  refine st_iadd (pc := 294) dL_law_294 ?_
  refine bd_sld (pc := 295) hq dL_law_295 hE (fun hq => ?_)
  obtain ⟨⟨hbq2, hkq2⟩, hq⟩ := mh_oi hq
  obtain ⟨q2, e2, hq⟩ := mh_ob hq
  refine st_invV (pc := 296) (ci := 12) (vs := [.int (xs (l3 + (1 : Int32)).toNatClampNeg), .int (xs (l3 + (2 : Int32)).toNatClampNeg)]) (rest := [.int q1.1]) (st2 := [.int q2.1, .int q1.1]) dL_law_296 okX12_jointIs (by decide) hkq2 hbq2 wd_1282 wd_1283 wd_1284 pdX12_jointIs rfl rfl rfl rfl (Nat.le_trans (by decide) hd) (Nat.le_of_ble_eq_true rfl) (T_X12_jointIs (Nat.le_refl _) e2) rfl ?_
  refine bd_icmp_eq (pc := 299) (tgt := 1901) hq dL_law_299 (by decide) (fun _ hq => ?_) (fun _ hq => ?_)
  ·
    exact T_L_law_1901 hd hE hk18 hq
  ·
    refine st_iconst (pc := 302) (v := (0 : Int32)) dL_law_302 rfl ?_
    exact bd_zret (pc := 303) hq dL_law_303 rfl
def D_L_law_304 (N : Nat) (L : Nat) (xs : Nat → Int32) (k18 : mh_H → Nat → Nat → Int32 → Option (Int32 × mh_H)) (h : mh_H) (l1 : Nat) (l2 : Nat) (l3 : Int32) : Option (Int32 × mh_H) :=
  sI L (l3 + (1 : Int32)) <|
  sI L (l3 + (2 : Int32)) <|
  sI L (l3 + (3 : Int32)) <|
  sI L (l3 + (4 : Int32)) <|
  kO h 11 l1 <|
  (D_X11_way N h l1 (xs (l3 + (1 : Int32)).toNatClampNeg) (xs (l3 + (2 : Int32)).toNatClampNeg) (xs (l3 + (3 : Int32)).toNatClampNeg) (xs (l3 + (4 : Int32)).toNatClampNeg)).bind fun q1 =>
  sI L (l3 + (1 : Int32)) <|
  sI L (l3 + (2 : Int32)) <|
  sI L (l3 + (3 : Int32)) <|
  sI L (l3 + (4 : Int32)) <|
  kO q1.2 12 l2 <|
  (D_X12_way_ N q1.2 l2 (xs (l3 + (1 : Int32)).toNatClampNeg) (xs (l3 + (2 : Int32)).toNatClampNeg) (xs (l3 + (3 : Int32)).toNatClampNeg) (xs (l3 + (4 : Int32)).toNatClampNeg)).bind fun q2 =>
  if q1.1 = q2.1 then (D_L_law_1901 N L xs k18 q2.2 l1 l2 l3)
  else (zB (0 : Int32) q2.2)
set_option maxHeartbeats 4000000 in
set_option maxRecDepth 100000 in
theorem T_L_law_304 {P : mh_E → Prop} {N d : Nat} (hd : 47 ≤ d) {L : Nat} {xs : Nat → Int32} (hE : ∀ E, P E → mh_L E = L ∧ mh_xs E = xs) {z : (Int32 × mh_H)} {k18 : mh_H → Nat → Nat → Int32 → Option (Int32 × mh_H)} (hk18 : ∀ (h : mh_H) (l1 : Nat) (l2 : Nat) (l3 : Int32), k18 h l1 l2 l3 = some z → mh_go P d mL_law 18 [some (.ref 1000000000), some (.ref l1), some (.ref l2), some (.int l3)] [] h (some (.int z.1)) z.2) {h : mh_H} {l1 : Nat} {l2 : Nat} {l3 : Int32} (hq : D_L_law_304 N L xs k18 h l1 l2 l3 = some z) : mh_go P d mL_law 304 [some (.ref 1000000000), some (.ref l1), some (.ref l2), some (.int l3)] [] h (some (.int z.1)) z.2 := by
  unfold D_L_law_304 at hq
  refine st_aload_n (pc := 304) dL_law_304 rfl ?_
  refine st_aload_n (pc := 305) dL_law_305 rfl ?_
  refine st_iload_n (pc := 306) dL_law_306 rfl ?_
  refine st_iconst (pc := 307) (v := (1 : Int32)) dL_law_307 rfl ?_
  refine st_iadd (pc := 308) dL_law_308 ?_
  refine bd_sld (pc := 309) hq dL_law_309 hE (fun hq => ?_)
  refine st_aload_n (pc := 310) dL_law_310 rfl ?_
  refine st_iload_n (pc := 311) dL_law_311 rfl ?_
  refine st_iconst (pc := 312) (v := (2 : Int32)) dL_law_312 rfl ?_
  refine st_iadd (pc := 313) dL_law_313 ?_
  refine bd_sld (pc := 314) hq dL_law_314 hE (fun hq => ?_)
  refine st_aload_n (pc := 315) dL_law_315 rfl ?_
  refine st_iload_n (pc := 316) dL_law_316 rfl ?_
  refine st_iconst (pc := 317) (v := (3 : Int32)) dL_law_317 rfl ?_
  refine st_iadd (pc := 318) dL_law_318 ?_
  refine bd_sld (pc := 319) hq dL_law_319 hE (fun hq => ?_)
  refine st_aload_n (pc := 320) dL_law_320 rfl ?_
  refine st_iload_n (pc := 321) dL_law_321 rfl ?_
  refine st_iconst (pc := 322) (v := (4 : Int32)) dL_law_322 rfl ?_
  refine st_iadd (pc := 323) dL_law_323 ?_
  refine bd_sld (pc := 324) hq dL_law_324 hE (fun hq => ?_)
  obtain ⟨⟨hbq1, hkq1⟩, hq⟩ := mh_oi hq
  obtain ⟨q1, e1, hq⟩ := mh_ob hq
  refine st_invV (pc := 325) (ci := 11) (vs := [.int (xs (l3 + (1 : Int32)).toNatClampNeg), .int (xs (l3 + (2 : Int32)).toNatClampNeg), .int (xs (l3 + (3 : Int32)).toNatClampNeg), .int (xs (l3 + (4 : Int32)).toNatClampNeg)]) (rest := []) (st2 := [.int q1.1]) dL_law_325 okX11_way (by decide) hkq1 hbq1 wd_346 wd_347 wd_348 pdX11_way rfl rfl rfl rfl (Nat.le_trans (by decide) hd) (Nat.le_of_ble_eq_true rfl) (T_X11_way (Nat.le_refl _) e1) rfl ?_
  refine st_aload_n (pc := 328) dL_law_328 rfl ?_
  refine st_aload_n (pc := 329) dL_law_329 rfl ?_
  refine st_iload_n (pc := 330) dL_law_330 rfl ?_
  refine st_iconst (pc := 331) (v := (1 : Int32)) dL_law_331 rfl ?_
  refine st_iadd (pc := 332) dL_law_332 ?_
  refine bd_sld (pc := 333) hq dL_law_333 hE (fun hq => ?_)
  refine st_aload_n (pc := 334) dL_law_334 rfl ?_
  refine st_iload_n (pc := 335) dL_law_335 rfl ?_
  refine st_iconst (pc := 336) (v := (2 : Int32)) dL_law_336 rfl ?_
  refine st_iadd (pc := 337) dL_law_337 ?_
  refine bd_sld (pc := 338) hq dL_law_338 hE (fun hq => ?_)
  refine st_aload_n (pc := 339) dL_law_339 rfl ?_
  refine st_iload_n (pc := 340) dL_law_340 rfl ?_
  refine st_iconst (pc := 341) (v := (3 : Int32)) dL_law_341 rfl ?_
  refine st_iadd (pc := 342) dL_law_342 ?_
  refine bd_sld (pc := 343) hq dL_law_343 hE (fun hq => ?_)
  refine st_aload_n (pc := 344) dL_law_344 rfl ?_
  refine st_iload_n (pc := 345) dL_law_345 rfl ?_
  refine st_iconst (pc := 346) (v := (4 : Int32)) dL_law_346 rfl ?_
  refine st_iadd (pc := 347) dL_law_347 ?_
  refine bd_sld (pc := 348) hq dL_law_348 hE (fun hq => ?_)
  obtain ⟨⟨hbq2, hkq2⟩, hq⟩ := mh_oi hq
  obtain ⟨q2, e2, hq⟩ := mh_ob hq
  refine st_invV (pc := 349) (ci := 12) (vs := [.int (xs (l3 + (1 : Int32)).toNatClampNeg), .int (xs (l3 + (2 : Int32)).toNatClampNeg), .int (xs (l3 + (3 : Int32)).toNatClampNeg), .int (xs (l3 + (4 : Int32)).toNatClampNeg)]) (rest := [.int q1.1]) (st2 := [.int q2.1, .int q1.1]) dL_law_349 okX12_way_ (by decide) hkq2 hbq2 wd_1291 wd_1292 wd_1293 pdX12_way_ rfl rfl rfl rfl (Nat.le_trans (by decide) hd) (Nat.le_of_ble_eq_true rfl) (T_X12_way_ (Nat.le_refl _) e2) rfl ?_
  refine bd_icmp_eq (pc := 352) (tgt := 1901) hq dL_law_352 (by decide) (fun _ hq => ?_) (fun _ hq => ?_)
  ·
    exact T_L_law_1901 hd hE hk18 hq
  ·
    refine st_iconst (pc := 355) (v := (0 : Int32)) dL_law_355 rfl ?_
    exact bd_zret (pc := 356) hq dL_law_356 rfl
def D_L_law_357 (N : Nat) (L : Nat) (xs : Nat → Int32) (k18 : mh_H → Nat → Nat → Int32 → Option (Int32 × mh_H)) (h : mh_H) (l1 : Nat) (l2 : Nat) (l3 : Int32) : Option (Int32 × mh_H) :=
  sI L (l3 + (1 : Int32)) <|
  sI L (l3 + (2 : Int32)) <|
  kO h 11 l1 <|
  (D_X11_as N h l1 (xs (l3 + (1 : Int32)).toNatClampNeg) (xs (l3 + (2 : Int32)).toNatClampNeg)).bind fun q1 =>
  sI L (l3 + (1 : Int32)) <|
  sI L (l3 + (2 : Int32)) <|
  kO q1.2 12 l2 <|
  (D_X12_as N q1.2 l2 (xs (l3 + (1 : Int32)).toNatClampNeg) (xs (l3 + (2 : Int32)).toNatClampNeg)).bind fun q2 =>
  if q1.1 = q2.1 then (D_L_law_1901 N L xs k18 q2.2 l1 l2 l3)
  else (zB (0 : Int32) q2.2)
set_option maxHeartbeats 4000000 in
set_option maxRecDepth 100000 in
theorem T_L_law_357 {P : mh_E → Prop} {N d : Nat} (hd : 47 ≤ d) {L : Nat} {xs : Nat → Int32} (hE : ∀ E, P E → mh_L E = L ∧ mh_xs E = xs) {z : (Int32 × mh_H)} {k18 : mh_H → Nat → Nat → Int32 → Option (Int32 × mh_H)} (hk18 : ∀ (h : mh_H) (l1 : Nat) (l2 : Nat) (l3 : Int32), k18 h l1 l2 l3 = some z → mh_go P d mL_law 18 [some (.ref 1000000000), some (.ref l1), some (.ref l2), some (.int l3)] [] h (some (.int z.1)) z.2) {h : mh_H} {l1 : Nat} {l2 : Nat} {l3 : Int32} (hq : D_L_law_357 N L xs k18 h l1 l2 l3 = some z) : mh_go P d mL_law 357 [some (.ref 1000000000), some (.ref l1), some (.ref l2), some (.int l3)] [] h (some (.int z.1)) z.2 := by
  unfold D_L_law_357 at hq
  refine st_aload_n (pc := 357) dL_law_357 rfl ?_
  refine st_aload_n (pc := 358) dL_law_358 rfl ?_
  refine st_iload_n (pc := 359) dL_law_359 rfl ?_
  refine st_iconst (pc := 360) (v := (1 : Int32)) dL_law_360 rfl ?_
  refine st_iadd (pc := 361) dL_law_361 ?_
  refine bd_sld (pc := 362) hq dL_law_362 hE (fun hq => ?_)
  refine st_aload_n (pc := 363) dL_law_363 rfl ?_
  refine st_iload_n (pc := 364) dL_law_364 rfl ?_
  refine st_iconst (pc := 365) (v := (2 : Int32)) dL_law_365 rfl ?_
  refine st_iadd (pc := 366) dL_law_366 ?_
  refine bd_sld (pc := 367) hq dL_law_367 hE (fun hq => ?_)
  obtain ⟨⟨hbq1, hkq1⟩, hq⟩ := mh_oi hq
  obtain ⟨q1, e1, hq⟩ := mh_ob hq
  refine st_invV (pc := 368) (ci := 11) (vs := [.int (xs (l3 + (1 : Int32)).toNatClampNeg), .int (xs (l3 + (2 : Int32)).toNatClampNeg)]) (rest := []) (st2 := [.int q1.1]) dL_law_368 okX11_as (by decide) hkq1 hbq1 wd_424 wd_425 wd_426 pdX11_as rfl rfl rfl rfl (Nat.le_trans (by decide) hd) (Nat.le_of_ble_eq_true rfl) (T_X11_as (Nat.le_refl _) e1) rfl ?_
  refine st_aload_n (pc := 371) dL_law_371 rfl ?_
  refine st_aload_n (pc := 372) dL_law_372 rfl ?_
  refine st_iload_n (pc := 373) dL_law_373 rfl ?_
  refine st_iconst (pc := 374) (v := (1 : Int32)) dL_law_374 rfl ?_
  refine st_iadd (pc := 375) dL_law_375 ?_
  refine bd_sld (pc := 376) hq dL_law_376 hE (fun hq => ?_)
  refine st_aload_n (pc := 377) dL_law_377 rfl ?_
  refine st_iload_n (pc := 378) dL_law_378 rfl ?_
  refine st_iconst (pc := 379) (v := (2 : Int32)) dL_law_379 rfl ?_
  refine st_iadd (pc := 380) dL_law_380 ?_
  refine bd_sld (pc := 381) hq dL_law_381 hE (fun hq => ?_)
  obtain ⟨⟨hbq2, hkq2⟩, hq⟩ := mh_oi hq
  obtain ⟨q2, e2, hq⟩ := mh_ob hq
  refine st_invV (pc := 382) (ci := 12) (vs := [.int (xs (l3 + (1 : Int32)).toNatClampNeg), .int (xs (l3 + (2 : Int32)).toNatClampNeg)]) (rest := [.int q1.1]) (st2 := [.int q2.1, .int q1.1]) dL_law_382 okX12_as (by decide) hkq2 hbq2 wd_1312 wd_1313 wd_1314 pdX12_as rfl rfl rfl rfl (Nat.le_trans (by decide) hd) (Nat.le_of_ble_eq_true rfl) (T_X12_as (Nat.le_refl _) e2) rfl ?_
  refine bd_icmp_eq (pc := 385) (tgt := 1901) hq dL_law_385 (by decide) (fun _ hq => ?_) (fun _ hq => ?_)
  ·
    exact T_L_law_1901 hd hE hk18 hq
  ·
    refine st_iconst (pc := 388) (v := (0 : Int32)) dL_law_388 rfl ?_
    exact bd_zret (pc := 389) hq dL_law_389 rfl
def D_L_law_390 (N : Nat) (L : Nat) (xs : Nat → Int32) (k18 : mh_H → Nat → Nat → Int32 → Option (Int32 × mh_H)) (h : mh_H) (l1 : Nat) (l2 : Nat) (l3 : Int32) : Option (Int32 × mh_H) :=
  sI L (l3 + (1 : Int32)) <|
  sI L (l3 + (2 : Int32)) <|
  kO h 11 l1 <|
  (D_X11_wayIs N h l1 (xs (l3 + (1 : Int32)).toNatClampNeg) (xs (l3 + (2 : Int32)).toNatClampNeg)).bind fun q1 =>
  sI L (l3 + (1 : Int32)) <|
  sI L (l3 + (2 : Int32)) <|
  kO q1.2 12 l2 <|
  (D_X12_wayIs N q1.2 l2 (xs (l3 + (1 : Int32)).toNatClampNeg) (xs (l3 + (2 : Int32)).toNatClampNeg)).bind fun q2 =>
  if q1.1 = q2.1 then (D_L_law_1901 N L xs k18 q2.2 l1 l2 l3)
  else (zB (0 : Int32) q2.2)
set_option maxHeartbeats 4000000 in
set_option maxRecDepth 100000 in
theorem T_L_law_390 {P : mh_E → Prop} {N d : Nat} (hd : 47 ≤ d) {L : Nat} {xs : Nat → Int32} (hE : ∀ E, P E → mh_L E = L ∧ mh_xs E = xs) {z : (Int32 × mh_H)} {k18 : mh_H → Nat → Nat → Int32 → Option (Int32 × mh_H)} (hk18 : ∀ (h : mh_H) (l1 : Nat) (l2 : Nat) (l3 : Int32), k18 h l1 l2 l3 = some z → mh_go P d mL_law 18 [some (.ref 1000000000), some (.ref l1), some (.ref l2), some (.int l3)] [] h (some (.int z.1)) z.2) {h : mh_H} {l1 : Nat} {l2 : Nat} {l3 : Int32} (hq : D_L_law_390 N L xs k18 h l1 l2 l3 = some z) : mh_go P d mL_law 390 [some (.ref 1000000000), some (.ref l1), some (.ref l2), some (.int l3)] [] h (some (.int z.1)) z.2 := by
  unfold D_L_law_390 at hq
  refine st_aload_n (pc := 390) dL_law_390 rfl ?_
  refine st_aload_n (pc := 391) dL_law_391 rfl ?_
  refine st_iload_n (pc := 392) dL_law_392 rfl ?_
  refine st_iconst (pc := 393) (v := (1 : Int32)) dL_law_393 rfl ?_
  refine st_iadd (pc := 394) dL_law_394 ?_
  refine bd_sld (pc := 395) hq dL_law_395 hE (fun hq => ?_)
  refine st_aload_n (pc := 396) dL_law_396 rfl ?_
  refine st_iload_n (pc := 397) dL_law_397 rfl ?_
  refine st_iconst (pc := 398) (v := (2 : Int32)) dL_law_398 rfl ?_
  refine st_iadd (pc := 399) dL_law_399 ?_
  refine bd_sld (pc := 400) hq dL_law_400 hE (fun hq => ?_)
  obtain ⟨⟨hbq1, hkq1⟩, hq⟩ := mh_oi hq
  obtain ⟨q1, e1, hq⟩ := mh_ob hq
  refine st_invV (pc := 401) (ci := 11) (vs := [.int (xs (l3 + (1 : Int32)).toNatClampNeg), .int (xs (l3 + (2 : Int32)).toNatClampNeg)]) (rest := []) (st2 := [.int q1.1]) dL_law_401 okX11_wayIs (by decide) hkq1 hbq1 wd_451 wd_452 wd_453 pdX11_wayIs rfl rfl rfl rfl (Nat.le_trans (by decide) hd) (Nat.le_of_ble_eq_true rfl) (T_X11_wayIs (Nat.le_refl _) e1) rfl ?_
  refine st_aload_n (pc := 404) dL_law_404 rfl ?_
  refine st_aload_n (pc := 405) dL_law_405 rfl ?_
  refine st_iload_n (pc := 406) dL_law_406 rfl ?_
  refine st_iconst (pc := 407) (v := (1 : Int32)) dL_law_407 rfl ?_
  refine st_iadd (pc := 408) dL_law_408 ?_
  refine bd_sld (pc := 409) hq dL_law_409 hE (fun hq => ?_)
  refine st_aload_n (pc := 410) dL_law_410 rfl ?_
  refine st_iload_n (pc := 411) dL_law_411 rfl ?_
  refine st_iconst (pc := 412) (v := (2 : Int32)) dL_law_412 rfl ?_
  refine st_iadd (pc := 413) dL_law_413 ?_
  refine bd_sld (pc := 414) hq dL_law_414 hE (fun hq => ?_)
  obtain ⟨⟨hbq2, hkq2⟩, hq⟩ := mh_oi hq
  obtain ⟨q2, e2, hq⟩ := mh_ob hq
  refine st_invV (pc := 415) (ci := 12) (vs := [.int (xs (l3 + (1 : Int32)).toNatClampNeg), .int (xs (l3 + (2 : Int32)).toNatClampNeg)]) (rest := [.int q1.1]) (st2 := [.int q2.1, .int q1.1]) dL_law_415 okX12_wayIs (by decide) hkq2 hbq2 wd_1330 wd_1331 wd_1332 pdX12_wayIs rfl rfl rfl rfl (Nat.le_trans (by decide) hd) (Nat.le_of_ble_eq_true rfl) (T_X12_wayIs (Nat.le_refl _) e2) rfl ?_
  refine bd_icmp_eq (pc := 418) (tgt := 1901) hq dL_law_418 (by decide) (fun _ hq => ?_) (fun _ hq => ?_)
  ·
    exact T_L_law_1901 hd hE hk18 hq
  ·
    refine st_iconst (pc := 421) (v := (0 : Int32)) dL_law_421 rfl ?_
    exact bd_zret (pc := 422) hq dL_law_422 rfl
def D_L_law_464 (N : Nat) (L : Nat) (xs : Nat → Int32) (k18 : mh_H → Nat → Nat → Int32 → Option (Int32 × mh_H)) (h : mh_H) (l1 : Nat) (l2 : Nat) (l3 : Int32) (s0 : Int32) (s1 : Nat) (s2 : Int32) (s3 : Int32) : Option (Int32 × mh_H) :=
  kO h 12 s1 <|
  (D_X12_hangs N h s1 s2 s3).bind fun q1 =>
  if s0 = q1.1 then (D_L_law_1901 N L xs k18 q1.2 l1 l2 l3)
  else (zB (0 : Int32) q1.2)
set_option maxHeartbeats 4000000 in
set_option maxRecDepth 100000 in
theorem T_L_law_464 {P : mh_E → Prop} {N d : Nat} (hd : 47 ≤ d) {L : Nat} {xs : Nat → Int32} (hE : ∀ E, P E → mh_L E = L ∧ mh_xs E = xs) {z : (Int32 × mh_H)} {k18 : mh_H → Nat → Nat → Int32 → Option (Int32 × mh_H)} (hk18 : ∀ (h : mh_H) (l1 : Nat) (l2 : Nat) (l3 : Int32), k18 h l1 l2 l3 = some z → mh_go P d mL_law 18 [some (.ref 1000000000), some (.ref l1), some (.ref l2), some (.int l3)] [] h (some (.int z.1)) z.2) {h : mh_H} {l1 : Nat} {l2 : Nat} {l3 : Int32} {s0 : Int32} {s1 : Nat} {s2 : Int32} {s3 : Int32} (hq : D_L_law_464 N L xs k18 h l1 l2 l3 s0 s1 s2 s3 = some z) : mh_go P d mL_law 464 [some (.ref 1000000000), some (.ref l1), some (.ref l2), some (.int l3)] [.int s3, .int s2, .ref s1, .int s0] h (some (.int z.1)) z.2 := by
  unfold D_L_law_464 at hq
  obtain ⟨⟨hbq1, hkq1⟩, hq⟩ := mh_oi hq
  obtain ⟨q1, e1, hq⟩ := mh_ob hq
  refine st_invV (pc := 464) (ci := 12) (vs := [.int s2, .int s3]) (rest := [.int s0]) (st2 := [.int q1.1, .int s0]) dL_law_464 okX12_hangs (by decide) hkq1 hbq1 wd_1338 wd_1339 wd_1340 pdX12_hangs rfl rfl rfl rfl (Nat.le_trans (by decide) hd) (Nat.le_of_ble_eq_true rfl) (T_X12_hangs (Nat.le_refl _) e1) rfl ?_
  refine bd_icmp_eq (pc := 467) (tgt := 1901) hq dL_law_467 (by decide) (fun _ hq => ?_) (fun _ hq => ?_)
  ·
    exact T_L_law_1901 hd hE hk18 hq
  ·
    refine st_iconst (pc := 470) (v := (0 : Int32)) dL_law_470 rfl ?_
    exact bd_zret (pc := 471) hq dL_law_471 rfl
def D_L_law_442 (N : Nat) (L : Nat) (xs : Nat → Int32) (k18 : mh_H → Nat → Nat → Int32 → Option (Int32 × mh_H)) (h : mh_H) (l1 : Nat) (l2 : Nat) (l3 : Int32) (s0 : Nat) (s1 : Int32) (s2 : Int32) : Option (Int32 × mh_H) :=
  kO h 11 s0 <|
  (D_X11_hangs N h s0 s1 s2).bind fun q1 =>
  sI L (l3 + (1 : Int32)) <|
  sI L (l3 + (2 : Int32)) <|
  if (xs (l3 + (2 : Int32)).toNatClampNeg) = 0 then (D_L_law_464 N L xs k18 q1.2 l1 l2 l3 q1.1 l2 (xs (l3 + (1 : Int32)).toNatClampNeg) (0 : Int32))
  else (D_L_law_464 N L xs k18 q1.2 l1 l2 l3 q1.1 l2 (xs (l3 + (1 : Int32)).toNatClampNeg) (1 : Int32))
set_option maxHeartbeats 4000000 in
set_option maxRecDepth 100000 in
theorem T_L_law_442 {P : mh_E → Prop} {N d : Nat} (hd : 47 ≤ d) {L : Nat} {xs : Nat → Int32} (hE : ∀ E, P E → mh_L E = L ∧ mh_xs E = xs) {z : (Int32 × mh_H)} {k18 : mh_H → Nat → Nat → Int32 → Option (Int32 × mh_H)} (hk18 : ∀ (h : mh_H) (l1 : Nat) (l2 : Nat) (l3 : Int32), k18 h l1 l2 l3 = some z → mh_go P d mL_law 18 [some (.ref 1000000000), some (.ref l1), some (.ref l2), some (.int l3)] [] h (some (.int z.1)) z.2) {h : mh_H} {l1 : Nat} {l2 : Nat} {l3 : Int32} {s0 : Nat} {s1 : Int32} {s2 : Int32} (hq : D_L_law_442 N L xs k18 h l1 l2 l3 s0 s1 s2 = some z) : mh_go P d mL_law 442 [some (.ref 1000000000), some (.ref l1), some (.ref l2), some (.int l3)] [.int s2, .int s1, .ref s0] h (some (.int z.1)) z.2 := by
  unfold D_L_law_442 at hq
  obtain ⟨⟨hbq1, hkq1⟩, hq⟩ := mh_oi hq
  obtain ⟨q1, e1, hq⟩ := mh_ob hq
  refine st_invV (pc := 442) (ci := 11) (vs := [.int s1, .int s2]) (rest := []) (st2 := [.int q1.1]) dL_law_442 okX11_hangs (by decide) hkq1 hbq1 wd_479 wd_480 wd_481 pdX11_hangs rfl rfl rfl rfl (Nat.le_trans (by decide) hd) (Nat.le_of_ble_eq_true rfl) (T_X11_hangs (Nat.le_refl _) e1) rfl ?_
  refine st_aload_n (pc := 445) dL_law_445 rfl ?_
  refine st_aload_n (pc := 446) dL_law_446 rfl ?_
  refine st_iload_n (pc := 447) dL_law_447 rfl ?_
  refine st_iconst (pc := 448) (v := (1 : Int32)) dL_law_448 rfl ?_
  refine st_iadd (pc := 449) dL_law_449 ?_
  refine bd_sld (pc := 450) hq dL_law_450 hE (fun hq => ?_)
  refine st_aload_n (pc := 451) dL_law_451 rfl ?_
  refine st_iload_n (pc := 452) dL_law_452 rfl ?_
  refine st_iconst (pc := 453) (v := (2 : Int32)) dL_law_453 rfl ?_
  refine st_iadd (pc := 454) dL_law_454 ?_
  refine bd_sld (pc := 455) hq dL_law_455 hE (fun hq => ?_)
  refine bd_if_eq (pc := 456) (tgt := 463) hq dL_law_456 (by decide) (fun _ hq => ?_) (fun _ hq => ?_)
  ·
    refine st_iconst (pc := 463) (v := (0 : Int32)) dL_law_463 rfl ?_
    exact T_L_law_464 hd hE hk18 hq
  ·
    refine st_iconst (pc := 459) (v := (1 : Int32)) dL_law_459 rfl ?_
    refine st_goto (pc := 460) (tgt := 464) dL_law_460 (by decide) ?_
    exact T_L_law_464 hd hE hk18 hq
def D_L_law_423 (N : Nat) (L : Nat) (xs : Nat → Int32) (k18 : mh_H → Nat → Nat → Int32 → Option (Int32 × mh_H)) (h : mh_H) (l1 : Nat) (l2 : Nat) (l3 : Int32) : Option (Int32 × mh_H) :=
  sI L (l3 + (1 : Int32)) <|
  sI L (l3 + (2 : Int32)) <|
  if (xs (l3 + (2 : Int32)).toNatClampNeg) = 0 then (D_L_law_442 N L xs k18 h l1 l2 l3 l1 (xs (l3 + (1 : Int32)).toNatClampNeg) (0 : Int32))
  else (D_L_law_442 N L xs k18 h l1 l2 l3 l1 (xs (l3 + (1 : Int32)).toNatClampNeg) (1 : Int32))
set_option maxHeartbeats 4000000 in
set_option maxRecDepth 100000 in
theorem T_L_law_423 {P : mh_E → Prop} {N d : Nat} (hd : 47 ≤ d) {L : Nat} {xs : Nat → Int32} (hE : ∀ E, P E → mh_L E = L ∧ mh_xs E = xs) {z : (Int32 × mh_H)} {k18 : mh_H → Nat → Nat → Int32 → Option (Int32 × mh_H)} (hk18 : ∀ (h : mh_H) (l1 : Nat) (l2 : Nat) (l3 : Int32), k18 h l1 l2 l3 = some z → mh_go P d mL_law 18 [some (.ref 1000000000), some (.ref l1), some (.ref l2), some (.int l3)] [] h (some (.int z.1)) z.2) {h : mh_H} {l1 : Nat} {l2 : Nat} {l3 : Int32} (hq : D_L_law_423 N L xs k18 h l1 l2 l3 = some z) : mh_go P d mL_law 423 [some (.ref 1000000000), some (.ref l1), some (.ref l2), some (.int l3)] [] h (some (.int z.1)) z.2 := by
  unfold D_L_law_423 at hq
  refine st_aload_n (pc := 423) dL_law_423 rfl ?_
  refine st_aload_n (pc := 424) dL_law_424 rfl ?_
  refine st_iload_n (pc := 425) dL_law_425 rfl ?_
  refine st_iconst (pc := 426) (v := (1 : Int32)) dL_law_426 rfl ?_
  refine st_iadd (pc := 427) dL_law_427 ?_
  refine bd_sld (pc := 428) hq dL_law_428 hE (fun hq => ?_)
  refine st_aload_n (pc := 429) dL_law_429 rfl ?_
  refine st_iload_n (pc := 430) dL_law_430 rfl ?_
  refine st_iconst (pc := 431) (v := (2 : Int32)) dL_law_431 rfl ?_
  refine st_iadd (pc := 432) dL_law_432 ?_
  refine bd_sld (pc := 433) hq dL_law_433 hE (fun hq => ?_)
  refine bd_if_eq (pc := 434) (tgt := 441) hq dL_law_434 (by decide) (fun _ hq => ?_) (fun _ hq => ?_)
  ·
    refine st_iconst (pc := 441) (v := (0 : Int32)) dL_law_441 rfl ?_
    exact T_L_law_442 hd hE hk18 hq
  ·
    refine st_iconst (pc := 437) (v := (1 : Int32)) dL_law_437 rfl ?_
    refine st_goto (pc := 438) (tgt := 442) dL_law_438 (by decide) ?_
    exact T_L_law_442 hd hE hk18 hq
def D_L_law_472 (N : Nat) (L : Nat) (xs : Nat → Int32) (k18 : mh_H → Nat → Nat → Int32 → Option (Int32 × mh_H)) (h : mh_H) (l1 : Nat) (l2 : Nat) (l3 : Int32) : Option (Int32 × mh_H) :=
  sI L (l3 + (1 : Int32)) <|
  sI L (l3 + (2 : Int32)) <|
  kO h 11 l1 <|
  (D_X11_quick N h l1 (xs (l3 + (1 : Int32)).toNatClampNeg) (xs (l3 + (2 : Int32)).toNatClampNeg)).bind fun q1 =>
  sI L (l3 + (1 : Int32)) <|
  sI L (l3 + (2 : Int32)) <|
  kO q1.2 12 l2 <|
  (D_X12_quick N q1.2 l2 (xs (l3 + (1 : Int32)).toNatClampNeg) (xs (l3 + (2 : Int32)).toNatClampNeg)).bind fun q2 =>
  if q1.1 = q2.1 then (D_L_law_1901 N L xs k18 q2.2 l1 l2 l3)
  else (zB (0 : Int32) q2.2)
set_option maxHeartbeats 4000000 in
set_option maxRecDepth 100000 in
theorem T_L_law_472 {P : mh_E → Prop} {N d : Nat} (hd : 47 ≤ d) {L : Nat} {xs : Nat → Int32} (hE : ∀ E, P E → mh_L E = L ∧ mh_xs E = xs) {z : (Int32 × mh_H)} {k18 : mh_H → Nat → Nat → Int32 → Option (Int32 × mh_H)} (hk18 : ∀ (h : mh_H) (l1 : Nat) (l2 : Nat) (l3 : Int32), k18 h l1 l2 l3 = some z → mh_go P d mL_law 18 [some (.ref 1000000000), some (.ref l1), some (.ref l2), some (.int l3)] [] h (some (.int z.1)) z.2) {h : mh_H} {l1 : Nat} {l2 : Nat} {l3 : Int32} (hq : D_L_law_472 N L xs k18 h l1 l2 l3 = some z) : mh_go P d mL_law 472 [some (.ref 1000000000), some (.ref l1), some (.ref l2), some (.int l3)] [] h (some (.int z.1)) z.2 := by
  unfold D_L_law_472 at hq
  refine st_aload_n (pc := 472) dL_law_472 rfl ?_
  refine st_aload_n (pc := 473) dL_law_473 rfl ?_
  refine st_iload_n (pc := 474) dL_law_474 rfl ?_
  refine st_iconst (pc := 475) (v := (1 : Int32)) dL_law_475 rfl ?_
  refine st_iadd (pc := 476) dL_law_476 ?_
  refine bd_sld (pc := 477) hq dL_law_477 hE (fun hq => ?_)
  refine st_aload_n (pc := 478) dL_law_478 rfl ?_
  refine st_iload_n (pc := 479) dL_law_479 rfl ?_
  refine st_iconst (pc := 480) (v := (2 : Int32)) dL_law_480 rfl ?_
  refine st_iadd (pc := 481) dL_law_481 ?_
  refine bd_sld (pc := 482) hq dL_law_482 hE (fun hq => ?_)
  obtain ⟨⟨hbq1, hkq1⟩, hq⟩ := mh_oi hq
  obtain ⟨q1, e1, hq⟩ := mh_ob hq
  refine st_invV (pc := 483) (ci := 11) (vs := [.int (xs (l3 + (1 : Int32)).toNatClampNeg), .int (xs (l3 + (2 : Int32)).toNatClampNeg)]) (rest := []) (st2 := [.int q1.1]) dL_law_483 okX11_quick (by decide) hkq1 hbq1 wd_487 wd_488 wd_489 pdX11_quick rfl rfl rfl rfl (Nat.le_trans (by decide) hd) (Nat.le_of_ble_eq_true rfl) (T_X11_quick (Nat.le_refl _) e1) rfl ?_
  refine st_aload_n (pc := 486) dL_law_486 rfl ?_
  refine st_aload_n (pc := 487) dL_law_487 rfl ?_
  refine st_iload_n (pc := 488) dL_law_488 rfl ?_
  refine st_iconst (pc := 489) (v := (1 : Int32)) dL_law_489 rfl ?_
  refine st_iadd (pc := 490) dL_law_490 ?_
  refine bd_sld (pc := 491) hq dL_law_491 hE (fun hq => ?_)
  refine st_aload_n (pc := 492) dL_law_492 rfl ?_
  refine st_iload_n (pc := 493) dL_law_493 rfl ?_
  refine st_iconst (pc := 494) (v := (2 : Int32)) dL_law_494 rfl ?_
  refine st_iadd (pc := 495) dL_law_495 ?_
  refine bd_sld (pc := 496) hq dL_law_496 hE (fun hq => ?_)
  obtain ⟨⟨hbq2, hkq2⟩, hq⟩ := mh_oi hq
  obtain ⟨q2, e2, hq⟩ := mh_ob hq
  refine st_invV (pc := 497) (ci := 12) (vs := [.int (xs (l3 + (1 : Int32)).toNatClampNeg), .int (xs (l3 + (2 : Int32)).toNatClampNeg)]) (rest := [.int q1.1]) (st2 := [.int q2.1, .int q1.1]) dL_law_497 okX12_quick (by decide) hkq2 hbq2 wd_1346 wd_1347 wd_1348 pdX12_quick rfl rfl rfl rfl (Nat.le_trans (by decide) hd) (Nat.le_of_ble_eq_true rfl) (T_X12_quick (Nat.le_refl _) e2) rfl ?_
  refine bd_icmp_eq (pc := 500) (tgt := 1901) hq dL_law_500 (by decide) (fun _ hq => ?_) (fun _ hq => ?_)
  ·
    exact T_L_law_1901 hd hE hk18 hq
  ·
    refine st_iconst (pc := 503) (v := (0 : Int32)) dL_law_503 rfl ?_
    exact bd_zret (pc := 504) hq dL_law_504 rfl
def D_L_law_536 (N : Nat) (L : Nat) (xs : Nat → Int32) (k18 : mh_H → Nat → Nat → Int32 → Option (Int32 × mh_H)) (h : mh_H) (l1 : Nat) (l2 : Nat) (l3 : Int32) (s0 : Int32) (s1 : Nat) (s2 : Int32) : Option (Int32 × mh_H) :=
  kO h 12 s1 <|
  (D_X12_flood N h s1 s2).bind fun q1 =>
  if s0 = q1.1 then (D_L_law_1901 N L xs k18 q1.2 l1 l2 l3)
  else (zB (0 : Int32) q1.2)
set_option maxHeartbeats 4000000 in
set_option maxRecDepth 100000 in
theorem T_L_law_536 {P : mh_E → Prop} {N d : Nat} (hd : 47 ≤ d) {L : Nat} {xs : Nat → Int32} (hE : ∀ E, P E → mh_L E = L ∧ mh_xs E = xs) {z : (Int32 × mh_H)} {k18 : mh_H → Nat → Nat → Int32 → Option (Int32 × mh_H)} (hk18 : ∀ (h : mh_H) (l1 : Nat) (l2 : Nat) (l3 : Int32), k18 h l1 l2 l3 = some z → mh_go P d mL_law 18 [some (.ref 1000000000), some (.ref l1), some (.ref l2), some (.int l3)] [] h (some (.int z.1)) z.2) {h : mh_H} {l1 : Nat} {l2 : Nat} {l3 : Int32} {s0 : Int32} {s1 : Nat} {s2 : Int32} (hq : D_L_law_536 N L xs k18 h l1 l2 l3 s0 s1 s2 = some z) : mh_go P d mL_law 536 [some (.ref 1000000000), some (.ref l1), some (.ref l2), some (.int l3)] [.int s2, .ref s1, .int s0] h (some (.int z.1)) z.2 := by
  unfold D_L_law_536 at hq
  obtain ⟨⟨hbq1, hkq1⟩, hq⟩ := mh_oi hq
  obtain ⟨q1, e1, hq⟩ := mh_ob hq
  refine st_invV (pc := 536) (ci := 12) (vs := [.int s2]) (rest := [.int s0]) (st2 := [.int q1.1, .int s0]) dL_law_536 okX12_flood (by decide) hkq1 hbq1 wd_1350 wd_1351 wd_1352 pdX12_flood rfl rfl rfl rfl (Nat.le_trans (by decide) hd) (Nat.le_of_ble_eq_true rfl) (T_X12_flood (Nat.le_refl _) e1) rfl ?_
  refine bd_icmp_eq (pc := 539) (tgt := 1901) hq dL_law_539 (by decide) (fun _ hq => ?_) (fun _ hq => ?_)
  ·
    exact T_L_law_1901 hd hE hk18 hq
  ·
    refine st_iconst (pc := 542) (v := (0 : Int32)) dL_law_542 rfl ?_
    exact bd_zret (pc := 543) hq dL_law_543 rfl
def D_L_law_519 (N : Nat) (L : Nat) (xs : Nat → Int32) (k18 : mh_H → Nat → Nat → Int32 → Option (Int32 × mh_H)) (h : mh_H) (l1 : Nat) (l2 : Nat) (l3 : Int32) (s0 : Nat) (s1 : Int32) : Option (Int32 × mh_H) :=
  kO h 11 s0 <|
  (D_X11_flood N h s0 s1).bind fun q1 =>
  sI L (l3 + (1 : Int32)) <|
  if (xs (l3 + (1 : Int32)).toNatClampNeg) = 0 then (D_L_law_536 N L xs k18 q1.2 l1 l2 l3 q1.1 l2 (0 : Int32))
  else (D_L_law_536 N L xs k18 q1.2 l1 l2 l3 q1.1 l2 (1 : Int32))
set_option maxHeartbeats 4000000 in
set_option maxRecDepth 100000 in
theorem T_L_law_519 {P : mh_E → Prop} {N d : Nat} (hd : 47 ≤ d) {L : Nat} {xs : Nat → Int32} (hE : ∀ E, P E → mh_L E = L ∧ mh_xs E = xs) {z : (Int32 × mh_H)} {k18 : mh_H → Nat → Nat → Int32 → Option (Int32 × mh_H)} (hk18 : ∀ (h : mh_H) (l1 : Nat) (l2 : Nat) (l3 : Int32), k18 h l1 l2 l3 = some z → mh_go P d mL_law 18 [some (.ref 1000000000), some (.ref l1), some (.ref l2), some (.int l3)] [] h (some (.int z.1)) z.2) {h : mh_H} {l1 : Nat} {l2 : Nat} {l3 : Int32} {s0 : Nat} {s1 : Int32} (hq : D_L_law_519 N L xs k18 h l1 l2 l3 s0 s1 = some z) : mh_go P d mL_law 519 [some (.ref 1000000000), some (.ref l1), some (.ref l2), some (.int l3)] [.int s1, .ref s0] h (some (.int z.1)) z.2 := by
  unfold D_L_law_519 at hq
  obtain ⟨⟨hbq1, hkq1⟩, hq⟩ := mh_oi hq
  obtain ⟨q1, e1, hq⟩ := mh_ob hq
  refine st_invV (pc := 519) (ci := 11) (vs := [.int s1]) (rest := []) (st2 := [.int q1.1]) dL_law_519 okX11_flood (by decide) hkq1 hbq1 wd_498 wd_499 wd_500 pdX11_flood rfl rfl rfl rfl (Nat.le_trans (by decide) hd) (Nat.le_of_ble_eq_true rfl) (T_X11_flood (Nat.le_refl _) e1) rfl ?_
  refine st_aload_n (pc := 522) dL_law_522 rfl ?_
  refine st_aload_n (pc := 523) dL_law_523 rfl ?_
  refine st_iload_n (pc := 524) dL_law_524 rfl ?_
  refine st_iconst (pc := 525) (v := (1 : Int32)) dL_law_525 rfl ?_
  refine st_iadd (pc := 526) dL_law_526 ?_
  refine bd_sld (pc := 527) hq dL_law_527 hE (fun hq => ?_)
  refine bd_if_eq (pc := 528) (tgt := 535) hq dL_law_528 (by decide) (fun _ hq => ?_) (fun _ hq => ?_)
  ·
    refine st_iconst (pc := 535) (v := (0 : Int32)) dL_law_535 rfl ?_
    exact T_L_law_536 hd hE hk18 hq
  ·
    refine st_iconst (pc := 531) (v := (1 : Int32)) dL_law_531 rfl ?_
    refine st_goto (pc := 532) (tgt := 536) dL_law_532 (by decide) ?_
    exact T_L_law_536 hd hE hk18 hq
def D_L_law_505 (N : Nat) (L : Nat) (xs : Nat → Int32) (k18 : mh_H → Nat → Nat → Int32 → Option (Int32 × mh_H)) (h : mh_H) (l1 : Nat) (l2 : Nat) (l3 : Int32) : Option (Int32 × mh_H) :=
  sI L (l3 + (1 : Int32)) <|
  if (xs (l3 + (1 : Int32)).toNatClampNeg) = 0 then (D_L_law_519 N L xs k18 h l1 l2 l3 l1 (0 : Int32))
  else (D_L_law_519 N L xs k18 h l1 l2 l3 l1 (1 : Int32))
set_option maxHeartbeats 4000000 in
set_option maxRecDepth 100000 in
theorem T_L_law_505 {P : mh_E → Prop} {N d : Nat} (hd : 47 ≤ d) {L : Nat} {xs : Nat → Int32} (hE : ∀ E, P E → mh_L E = L ∧ mh_xs E = xs) {z : (Int32 × mh_H)} {k18 : mh_H → Nat → Nat → Int32 → Option (Int32 × mh_H)} (hk18 : ∀ (h : mh_H) (l1 : Nat) (l2 : Nat) (l3 : Int32), k18 h l1 l2 l3 = some z → mh_go P d mL_law 18 [some (.ref 1000000000), some (.ref l1), some (.ref l2), some (.int l3)] [] h (some (.int z.1)) z.2) {h : mh_H} {l1 : Nat} {l2 : Nat} {l3 : Int32} (hq : D_L_law_505 N L xs k18 h l1 l2 l3 = some z) : mh_go P d mL_law 505 [some (.ref 1000000000), some (.ref l1), some (.ref l2), some (.int l3)] [] h (some (.int z.1)) z.2 := by
  unfold D_L_law_505 at hq
  refine st_aload_n (pc := 505) dL_law_505 rfl ?_
  refine st_aload_n (pc := 506) dL_law_506 rfl ?_
  refine st_iload_n (pc := 507) dL_law_507 rfl ?_
  refine st_iconst (pc := 508) (v := (1 : Int32)) dL_law_508 rfl ?_
  refine st_iadd (pc := 509) dL_law_509 ?_
  refine bd_sld (pc := 510) hq dL_law_510 hE (fun hq => ?_)
  refine bd_if_eq (pc := 511) (tgt := 518) hq dL_law_511 (by decide) (fun _ hq => ?_) (fun _ hq => ?_)
  ·
    refine st_iconst (pc := 518) (v := (0 : Int32)) dL_law_518 rfl ?_
    exact T_L_law_519 hd hE hk18 hq
  ·
    refine st_iconst (pc := 514) (v := (1 : Int32)) dL_law_514 rfl ?_
    refine st_goto (pc := 515) (tgt := 519) dL_law_515 (by decide) ?_
    exact T_L_law_519 hd hE hk18 hq
def D_L_law_544 (N : Nat) (L : Nat) (xs : Nat → Int32) (k18 : mh_H → Nat → Nat → Int32 → Option (Int32 × mh_H)) (h : mh_H) (l1 : Nat) (l2 : Nat) (l3 : Int32) : Option (Int32 × mh_H) :=
  sI L (l3 + (1 : Int32)) <|
  sI L (l3 + (2 : Int32)) <|
  kO h 11 l1 <|
  (D_X11_fade N h l1 (xs (l3 + (1 : Int32)).toNatClampNeg) (xs (l3 + (2 : Int32)).toNatClampNeg)).bind fun q1 =>
  sI L (l3 + (1 : Int32)) <|
  sI L (l3 + (2 : Int32)) <|
  kO q1.2 12 l2 <|
  (D_X12_fade N q1.2 l2 (xs (l3 + (1 : Int32)).toNatClampNeg) (xs (l3 + (2 : Int32)).toNatClampNeg)).bind fun q2 =>
  if q1.1 = q2.1 then (D_L_law_1901 N L xs k18 q2.2 l1 l2 l3)
  else (zB (0 : Int32) q2.2)
set_option maxHeartbeats 4000000 in
set_option maxRecDepth 100000 in
theorem T_L_law_544 {P : mh_E → Prop} {N d : Nat} (hd : 47 ≤ d) {L : Nat} {xs : Nat → Int32} (hE : ∀ E, P E → mh_L E = L ∧ mh_xs E = xs) {z : (Int32 × mh_H)} {k18 : mh_H → Nat → Nat → Int32 → Option (Int32 × mh_H)} (hk18 : ∀ (h : mh_H) (l1 : Nat) (l2 : Nat) (l3 : Int32), k18 h l1 l2 l3 = some z → mh_go P d mL_law 18 [some (.ref 1000000000), some (.ref l1), some (.ref l2), some (.int l3)] [] h (some (.int z.1)) z.2) {h : mh_H} {l1 : Nat} {l2 : Nat} {l3 : Int32} (hq : D_L_law_544 N L xs k18 h l1 l2 l3 = some z) : mh_go P d mL_law 544 [some (.ref 1000000000), some (.ref l1), some (.ref l2), some (.int l3)] [] h (some (.int z.1)) z.2 := by
  unfold D_L_law_544 at hq
  refine st_aload_n (pc := 544) dL_law_544 rfl ?_
  refine st_aload_n (pc := 545) dL_law_545 rfl ?_
  refine st_iload_n (pc := 546) dL_law_546 rfl ?_
  refine st_iconst (pc := 547) (v := (1 : Int32)) dL_law_547 rfl ?_
  refine st_iadd (pc := 548) dL_law_548 ?_
  refine bd_sld (pc := 549) hq dL_law_549 hE (fun hq => ?_)
  refine st_aload_n (pc := 550) dL_law_550 rfl ?_
  refine st_iload_n (pc := 551) dL_law_551 rfl ?_
  refine st_iconst (pc := 552) (v := (2 : Int32)) dL_law_552 rfl ?_
  refine st_iadd (pc := 553) dL_law_553 ?_
  refine bd_sld (pc := 554) hq dL_law_554 hE (fun hq => ?_)
  obtain ⟨⟨hbq1, hkq1⟩, hq⟩ := mh_oi hq
  obtain ⟨q1, e1, hq⟩ := mh_ob hq
  refine st_invV (pc := 555) (ci := 11) (vs := [.int (xs (l3 + (1 : Int32)).toNatClampNeg), .int (xs (l3 + (2 : Int32)).toNatClampNeg)]) (rest := []) (st2 := [.int q1.1]) dL_law_555 okX11_fade (by decide) hkq1 hbq1 wd_502 wd_503 wd_504 pdX11_fade rfl rfl rfl rfl (Nat.le_trans (by decide) hd) (Nat.le_of_ble_eq_true rfl) (T_X11_fade (Nat.le_refl _) e1) rfl ?_
  refine st_aload_n (pc := 558) dL_law_558 rfl ?_
  refine st_aload_n (pc := 559) dL_law_559 rfl ?_
  refine st_iload_n (pc := 560) dL_law_560 rfl ?_
  refine st_iconst (pc := 561) (v := (1 : Int32)) dL_law_561 rfl ?_
  refine st_iadd (pc := 562) dL_law_562 ?_
  refine bd_sld (pc := 563) hq dL_law_563 hE (fun hq => ?_)
  refine st_aload_n (pc := 564) dL_law_564 rfl ?_
  refine st_iload_n (pc := 565) dL_law_565 rfl ?_
  refine st_iconst (pc := 566) (v := (2 : Int32)) dL_law_566 rfl ?_
  refine st_iadd (pc := 567) dL_law_567 ?_
  refine bd_sld (pc := 568) hq dL_law_568 hE (fun hq => ?_)
  obtain ⟨⟨hbq2, hkq2⟩, hq⟩ := mh_oi hq
  obtain ⟨q2, e2, hq⟩ := mh_ob hq
  refine st_invV (pc := 569) (ci := 12) (vs := [.int (xs (l3 + (1 : Int32)).toNatClampNeg), .int (xs (l3 + (2 : Int32)).toNatClampNeg)]) (rest := [.int q1.1]) (st2 := [.int q2.1, .int q1.1]) dL_law_569 okX12_fade (by decide) hkq2 hbq2 wd_1354 wd_1355 wd_1356 pdX12_fade rfl rfl rfl rfl (Nat.le_trans (by decide) hd) (Nat.le_of_ble_eq_true rfl) (T_X12_fade (Nat.le_refl _) e2) rfl ?_
  refine bd_icmp_eq (pc := 572) (tgt := 1901) hq dL_law_572 (by decide) (fun _ hq => ?_) (fun _ hq => ?_)
  ·
    exact T_L_law_1901 hd hE hk18 hq
  ·
    refine st_iconst (pc := 575) (v := (0 : Int32)) dL_law_575 rfl ?_
    exact bd_zret (pc := 576) hq dL_law_576 rfl
def D_L_law_577 (N : Nat) (L : Nat) (xs : Nat → Int32) (k18 : mh_H → Nat → Nat → Int32 → Option (Int32 × mh_H)) (h : mh_H) (l1 : Nat) (l2 : Nat) (l3 : Int32) : Option (Int32 × mh_H) :=
  sI L (l3 + (1 : Int32)) <|
  kO h 11 l1 <|
  (D_X11_hours N h l1 (xs (l3 + (1 : Int32)).toNatClampNeg)).bind fun q1 =>
  sI L (l3 + (1 : Int32)) <|
  kO q1.2 12 l2 <|
  (D_X12_hours N q1.2 l2 (xs (l3 + (1 : Int32)).toNatClampNeg)).bind fun q2 =>
  if q1.1 = q2.1 then (D_L_law_1901 N L xs k18 q2.2 l1 l2 l3)
  else (zB (0 : Int32) q2.2)
set_option maxHeartbeats 4000000 in
set_option maxRecDepth 100000 in
theorem T_L_law_577 {P : mh_E → Prop} {N d : Nat} (hd : 47 ≤ d) {L : Nat} {xs : Nat → Int32} (hE : ∀ E, P E → mh_L E = L ∧ mh_xs E = xs) {z : (Int32 × mh_H)} {k18 : mh_H → Nat → Nat → Int32 → Option (Int32 × mh_H)} (hk18 : ∀ (h : mh_H) (l1 : Nat) (l2 : Nat) (l3 : Int32), k18 h l1 l2 l3 = some z → mh_go P d mL_law 18 [some (.ref 1000000000), some (.ref l1), some (.ref l2), some (.int l3)] [] h (some (.int z.1)) z.2) {h : mh_H} {l1 : Nat} {l2 : Nat} {l3 : Int32} (hq : D_L_law_577 N L xs k18 h l1 l2 l3 = some z) : mh_go P d mL_law 577 [some (.ref 1000000000), some (.ref l1), some (.ref l2), some (.int l3)] [] h (some (.int z.1)) z.2 := by
  unfold D_L_law_577 at hq
  refine st_aload_n (pc := 577) dL_law_577 rfl ?_
  refine st_aload_n (pc := 578) dL_law_578 rfl ?_
  refine st_iload_n (pc := 579) dL_law_579 rfl ?_
  refine st_iconst (pc := 580) (v := (1 : Int32)) dL_law_580 rfl ?_
  refine st_iadd (pc := 581) dL_law_581 ?_
  refine bd_sld (pc := 582) hq dL_law_582 hE (fun hq => ?_)
  obtain ⟨⟨hbq1, hkq1⟩, hq⟩ := mh_oi hq
  obtain ⟨q1, e1, hq⟩ := mh_ob hq
  refine st_invV (pc := 583) (ci := 11) (vs := [.int (xs (l3 + (1 : Int32)).toNatClampNeg)]) (rest := []) (st2 := [.int q1.1]) dL_law_583 okX11_hours (by decide) hkq1 hbq1 wd_509 wd_510 wd_511 pdX11_hours rfl rfl rfl rfl (Nat.le_trans (by decide) hd) (Nat.le_of_ble_eq_true rfl) (T_X11_hours (Nat.le_refl _) e1) rfl ?_
  refine st_aload_n (pc := 586) dL_law_586 rfl ?_
  refine st_aload_n (pc := 587) dL_law_587 rfl ?_
  refine st_iload_n (pc := 588) dL_law_588 rfl ?_
  refine st_iconst (pc := 589) (v := (1 : Int32)) dL_law_589 rfl ?_
  refine st_iadd (pc := 590) dL_law_590 ?_
  refine bd_sld (pc := 591) hq dL_law_591 hE (fun hq => ?_)
  obtain ⟨⟨hbq2, hkq2⟩, hq⟩ := mh_oi hq
  obtain ⟨q2, e2, hq⟩ := mh_ob hq
  refine st_invV (pc := 592) (ci := 12) (vs := [.int (xs (l3 + (1 : Int32)).toNatClampNeg)]) (rest := [.int q1.1]) (st2 := [.int q2.1, .int q1.1]) dL_law_592 okX12_hours (by decide) hkq2 hbq2 wd_1361 wd_1362 wd_1363 pdX12_hours rfl rfl rfl rfl (Nat.le_trans (by decide) hd) (Nat.le_of_ble_eq_true rfl) (T_X12_hours (Nat.le_refl _) e2) rfl ?_
  refine bd_icmp_eq (pc := 595) (tgt := 1901) hq dL_law_595 (by decide) (fun _ hq => ?_) (fun _ hq => ?_)
  ·
    exact T_L_law_1901 hd hE hk18 hq
  ·
    refine st_iconst (pc := 598) (v := (0 : Int32)) dL_law_598 rfl ?_
    exact bd_zret (pc := 599) hq dL_law_599 rfl
def D_L_law_600 (N : Nat) (L : Nat) (xs : Nat → Int32) (k18 : mh_H → Nat → Nat → Int32 → Option (Int32 × mh_H)) (h : mh_H) (l1 : Nat) (l2 : Nat) (l3 : Int32) : Option (Int32 × mh_H) :=
  sI L (l3 + (1 : Int32)) <|
  sI L (l3 + (2 : Int32)) <|
  sI L (l3 + (3 : Int32)) <|
  kO h 11 l1 <|
  (D_X11_put N h l1 (xs (l3 + (1 : Int32)).toNatClampNeg) (xs (l3 + (2 : Int32)).toNatClampNeg) (xs (l3 + (3 : Int32)).toNatClampNeg)).bind fun q1 =>
  sI L (l3 + (1 : Int32)) <|
  sI L (l3 + (2 : Int32)) <|
  sI L (l3 + (3 : Int32)) <|
  kO q1.2 12 l2 <|
  (D_X12_put N q1.2 l2 (xs (l3 + (1 : Int32)).toNatClampNeg) (xs (l3 + (2 : Int32)).toNatClampNeg) (xs (l3 + (3 : Int32)).toNatClampNeg)).bind fun q2 =>
  if q1.1 = q2.1 then (D_L_law_1901 N L xs k18 q2.2 l1 l2 l3)
  else (zB (0 : Int32) q2.2)
set_option maxHeartbeats 4000000 in
set_option maxRecDepth 100000 in
theorem T_L_law_600 {P : mh_E → Prop} {N d : Nat} (hd : 47 ≤ d) {L : Nat} {xs : Nat → Int32} (hE : ∀ E, P E → mh_L E = L ∧ mh_xs E = xs) {z : (Int32 × mh_H)} {k18 : mh_H → Nat → Nat → Int32 → Option (Int32 × mh_H)} (hk18 : ∀ (h : mh_H) (l1 : Nat) (l2 : Nat) (l3 : Int32), k18 h l1 l2 l3 = some z → mh_go P d mL_law 18 [some (.ref 1000000000), some (.ref l1), some (.ref l2), some (.int l3)] [] h (some (.int z.1)) z.2) {h : mh_H} {l1 : Nat} {l2 : Nat} {l3 : Int32} (hq : D_L_law_600 N L xs k18 h l1 l2 l3 = some z) : mh_go P d mL_law 600 [some (.ref 1000000000), some (.ref l1), some (.ref l2), some (.int l3)] [] h (some (.int z.1)) z.2 := by
  unfold D_L_law_600 at hq
  refine st_aload_n (pc := 600) dL_law_600 rfl ?_
  refine st_aload_n (pc := 601) dL_law_601 rfl ?_
  refine st_iload_n (pc := 602) dL_law_602 rfl ?_
  refine st_iconst (pc := 603) (v := (1 : Int32)) dL_law_603 rfl ?_
  refine st_iadd (pc := 604) dL_law_604 ?_
  refine bd_sld (pc := 605) hq dL_law_605 hE (fun hq => ?_)
  refine st_aload_n (pc := 606) dL_law_606 rfl ?_
  refine st_iload_n (pc := 607) dL_law_607 rfl ?_
  refine st_iconst (pc := 608) (v := (2 : Int32)) dL_law_608 rfl ?_
  refine st_iadd (pc := 609) dL_law_609 ?_
  refine bd_sld (pc := 610) hq dL_law_610 hE (fun hq => ?_)
  refine st_aload_n (pc := 611) dL_law_611 rfl ?_
  refine st_iload_n (pc := 612) dL_law_612 rfl ?_
  refine st_iconst (pc := 613) (v := (3 : Int32)) dL_law_613 rfl ?_
  refine st_iadd (pc := 614) dL_law_614 ?_
  refine bd_sld (pc := 615) hq dL_law_615 hE (fun hq => ?_)
  obtain ⟨⟨hbq1, hkq1⟩, hq⟩ := mh_oi hq
  obtain ⟨q1, e1, hq⟩ := mh_ob hq
  refine st_invV (pc := 616) (ci := 11) (vs := [.int (xs (l3 + (1 : Int32)).toNatClampNeg), .int (xs (l3 + (2 : Int32)).toNatClampNeg), .int (xs (l3 + (3 : Int32)).toNatClampNeg)]) (rest := []) (st2 := [.int q1.1]) dL_law_616 okX11_put (by decide) hkq1 hbq1 wd_616 wd_617 wd_618 pdX11_put rfl rfl rfl rfl (Nat.le_trans (by decide) hd) (Nat.le_of_ble_eq_true rfl) (T_X11_put (Nat.le_refl _) e1) rfl ?_
  refine st_aload_n (pc := 619) dL_law_619 rfl ?_
  refine st_aload_n (pc := 620) dL_law_620 rfl ?_
  refine st_iload_n (pc := 621) dL_law_621 rfl ?_
  refine st_iconst (pc := 622) (v := (1 : Int32)) dL_law_622 rfl ?_
  refine st_iadd (pc := 623) dL_law_623 ?_
  refine bd_sld (pc := 624) hq dL_law_624 hE (fun hq => ?_)
  refine st_aload_n (pc := 625) dL_law_625 rfl ?_
  refine st_iload_n (pc := 626) dL_law_626 rfl ?_
  refine st_iconst (pc := 627) (v := (2 : Int32)) dL_law_627 rfl ?_
  refine st_iadd (pc := 628) dL_law_628 ?_
  refine bd_sld (pc := 629) hq dL_law_629 hE (fun hq => ?_)
  refine st_aload_n (pc := 630) dL_law_630 rfl ?_
  refine st_iload_n (pc := 631) dL_law_631 rfl ?_
  refine st_iconst (pc := 632) (v := (3 : Int32)) dL_law_632 rfl ?_
  refine st_iadd (pc := 633) dL_law_633 ?_
  refine bd_sld (pc := 634) hq dL_law_634 hE (fun hq => ?_)
  obtain ⟨⟨hbq2, hkq2⟩, hq⟩ := mh_oi hq
  obtain ⟨q2, e2, hq⟩ := mh_ob hq
  refine st_invV (pc := 635) (ci := 12) (vs := [.int (xs (l3 + (1 : Int32)).toNatClampNeg), .int (xs (l3 + (2 : Int32)).toNatClampNeg), .int (xs (l3 + (3 : Int32)).toNatClampNeg)]) (rest := [.int q1.1]) (st2 := [.int q2.1, .int q1.1]) dL_law_635 okX12_put (by decide) hkq2 hbq2 wd_1423 wd_1424 wd_1425 pdX12_put rfl rfl rfl rfl (Nat.le_trans (by decide) hd) (Nat.le_of_ble_eq_true rfl) (T_X12_put (Nat.le_refl _) e2) rfl ?_
  refine bd_icmp_eq (pc := 638) (tgt := 1901) hq dL_law_638 (by decide) (fun _ hq => ?_) (fun _ hq => ?_)
  ·
    exact T_L_law_1901 hd hE hk18 hq
  ·
    refine st_iconst (pc := 641) (v := (0 : Int32)) dL_law_641 rfl ?_
    exact bd_zret (pc := 642) hq dL_law_642 rfl
def D_L_law_643 (N : Nat) (L : Nat) (xs : Nat → Int32) (k18 : mh_H → Nat → Nat → Int32 → Option (Int32 × mh_H)) (h : mh_H) (l1 : Nat) (l2 : Nat) (l3 : Int32) : Option (Int32 × mh_H) :=
  sI L (l3 + (1 : Int32)) <|
  sI L (l3 + (2 : Int32)) <|
  kO h 11 l1 <|
  (D_X11_putIs N h l1 (xs (l3 + (1 : Int32)).toNatClampNeg) (xs (l3 + (2 : Int32)).toNatClampNeg)).bind fun q1 =>
  sI L (l3 + (1 : Int32)) <|
  sI L (l3 + (2 : Int32)) <|
  kO q1.2 12 l2 <|
  (D_X12_putIs N q1.2 l2 (xs (l3 + (1 : Int32)).toNatClampNeg) (xs (l3 + (2 : Int32)).toNatClampNeg)).bind fun q2 =>
  if q1.1 = q2.1 then (D_L_law_1901 N L xs k18 q2.2 l1 l2 l3)
  else (zB (0 : Int32) q2.2)
set_option maxHeartbeats 4000000 in
set_option maxRecDepth 100000 in
theorem T_L_law_643 {P : mh_E → Prop} {N d : Nat} (hd : 47 ≤ d) {L : Nat} {xs : Nat → Int32} (hE : ∀ E, P E → mh_L E = L ∧ mh_xs E = xs) {z : (Int32 × mh_H)} {k18 : mh_H → Nat → Nat → Int32 → Option (Int32 × mh_H)} (hk18 : ∀ (h : mh_H) (l1 : Nat) (l2 : Nat) (l3 : Int32), k18 h l1 l2 l3 = some z → mh_go P d mL_law 18 [some (.ref 1000000000), some (.ref l1), some (.ref l2), some (.int l3)] [] h (some (.int z.1)) z.2) {h : mh_H} {l1 : Nat} {l2 : Nat} {l3 : Int32} (hq : D_L_law_643 N L xs k18 h l1 l2 l3 = some z) : mh_go P d mL_law 643 [some (.ref 1000000000), some (.ref l1), some (.ref l2), some (.int l3)] [] h (some (.int z.1)) z.2 := by
  unfold D_L_law_643 at hq
  refine st_aload_n (pc := 643) dL_law_643 rfl ?_
  refine st_aload_n (pc := 644) dL_law_644 rfl ?_
  refine st_iload_n (pc := 645) dL_law_645 rfl ?_
  refine st_iconst (pc := 646) (v := (1 : Int32)) dL_law_646 rfl ?_
  refine st_iadd (pc := 647) dL_law_647 ?_
  refine bd_sld (pc := 648) hq dL_law_648 hE (fun hq => ?_)
  refine st_aload_n (pc := 649) dL_law_649 rfl ?_
  refine st_iload_n (pc := 650) dL_law_650 rfl ?_
  refine st_iconst (pc := 651) (v := (2 : Int32)) dL_law_651 rfl ?_
  refine st_iadd (pc := 652) dL_law_652 ?_
  refine bd_sld (pc := 653) hq dL_law_653 hE (fun hq => ?_)
  obtain ⟨⟨hbq1, hkq1⟩, hq⟩ := mh_oi hq
  obtain ⟨q1, e1, hq⟩ := mh_ob hq
  refine st_invV (pc := 654) (ci := 11) (vs := [.int (xs (l3 + (1 : Int32)).toNatClampNeg), .int (xs (l3 + (2 : Int32)).toNatClampNeg)]) (rest := []) (st2 := [.int q1.1]) dL_law_654 okX11_putIs (by decide) hkq1 hbq1 wd_628 wd_629 wd_630 pdX11_putIs rfl rfl rfl rfl (Nat.le_trans (by decide) hd) (Nat.le_of_ble_eq_true rfl) (T_X11_putIs (Nat.le_refl _) e1) rfl ?_
  refine st_aload_n (pc := 657) dL_law_657 rfl ?_
  refine st_aload_n (pc := 658) dL_law_658 rfl ?_
  refine st_iload_n (pc := 659) dL_law_659 rfl ?_
  refine st_iconst (pc := 660) (v := (1 : Int32)) dL_law_660 rfl ?_
  refine st_iadd (pc := 661) dL_law_661 ?_
  refine bd_sld (pc := 662) hq dL_law_662 hE (fun hq => ?_)
  refine st_aload_n (pc := 663) dL_law_663 rfl ?_
  refine st_iload_n (pc := 664) dL_law_664 rfl ?_
  refine st_iconst (pc := 665) (v := (2 : Int32)) dL_law_665 rfl ?_
  refine st_iadd (pc := 666) dL_law_666 ?_
  refine bd_sld (pc := 667) hq dL_law_667 hE (fun hq => ?_)
  obtain ⟨⟨hbq2, hkq2⟩, hq⟩ := mh_oi hq
  obtain ⟨q2, e2, hq⟩ := mh_ob hq
  refine st_invV (pc := 668) (ci := 12) (vs := [.int (xs (l3 + (1 : Int32)).toNatClampNeg), .int (xs (l3 + (2 : Int32)).toNatClampNeg)]) (rest := [.int q1.1]) (st2 := [.int q2.1, .int q1.1]) dL_law_668 okX12_putIs (by decide) hkq2 hbq2 wd_1432 wd_1433 wd_1434 pdX12_putIs rfl rfl rfl rfl (Nat.le_trans (by decide) hd) (Nat.le_of_ble_eq_true rfl) (T_X12_putIs (Nat.le_refl _) e2) rfl ?_
  refine bd_icmp_eq (pc := 671) (tgt := 1901) hq dL_law_671 (by decide) (fun _ hq => ?_) (fun _ hq => ?_)
  ·
    exact T_L_law_1901 hd hE hk18 hq
  ·
    refine st_iconst (pc := 674) (v := (0 : Int32)) dL_law_674 rfl ?_
    exact bd_zret (pc := 675) hq dL_law_675 rfl
def D_L_law_676 (N : Nat) (L : Nat) (xs : Nat → Int32) (k18 : mh_H → Nat → Nat → Int32 → Option (Int32 × mh_H)) (h : mh_H) (l1 : Nat) (l2 : Nat) (l3 : Int32) : Option (Int32 × mh_H) :=
  sI L (l3 + (1 : Int32)) <|
  sI L (l3 + (2 : Int32)) <|
  sI L (l3 + (3 : Int32)) <|
  sI L (l3 + (4 : Int32)) <|
  sI L (l3 + (5 : Int32)) <|
  kO h 11 l1 <|
  (D_X11_pours N h l1 (xs (l3 + (1 : Int32)).toNatClampNeg) (xs (l3 + (2 : Int32)).toNatClampNeg) (xs (l3 + (3 : Int32)).toNatClampNeg) (xs (l3 + (4 : Int32)).toNatClampNeg) (xs (l3 + (5 : Int32)).toNatClampNeg)).bind fun q1 =>
  sI L (l3 + (1 : Int32)) <|
  sI L (l3 + (2 : Int32)) <|
  sI L (l3 + (3 : Int32)) <|
  sI L (l3 + (4 : Int32)) <|
  sI L (l3 + (5 : Int32)) <|
  kO q1.2 12 l2 <|
  (D_X12_pours N q1.2 l2 (xs (l3 + (1 : Int32)).toNatClampNeg) (xs (l3 + (2 : Int32)).toNatClampNeg) (xs (l3 + (3 : Int32)).toNatClampNeg) (xs (l3 + (4 : Int32)).toNatClampNeg) (xs (l3 + (5 : Int32)).toNatClampNeg)).bind fun q2 =>
  if q1.1 = q2.1 then (D_L_law_1901 N L xs k18 q2.2 l1 l2 l3)
  else (zB (0 : Int32) q2.2)
set_option maxHeartbeats 4000000 in
set_option maxRecDepth 100000 in
theorem T_L_law_676 {P : mh_E → Prop} {N d : Nat} (hd : 47 ≤ d) {L : Nat} {xs : Nat → Int32} (hE : ∀ E, P E → mh_L E = L ∧ mh_xs E = xs) {z : (Int32 × mh_H)} {k18 : mh_H → Nat → Nat → Int32 → Option (Int32 × mh_H)} (hk18 : ∀ (h : mh_H) (l1 : Nat) (l2 : Nat) (l3 : Int32), k18 h l1 l2 l3 = some z → mh_go P d mL_law 18 [some (.ref 1000000000), some (.ref l1), some (.ref l2), some (.int l3)] [] h (some (.int z.1)) z.2) {h : mh_H} {l1 : Nat} {l2 : Nat} {l3 : Int32} (hq : D_L_law_676 N L xs k18 h l1 l2 l3 = some z) : mh_go P d mL_law 676 [some (.ref 1000000000), some (.ref l1), some (.ref l2), some (.int l3)] [] h (some (.int z.1)) z.2 := by
  unfold D_L_law_676 at hq
  refine st_aload_n (pc := 676) dL_law_676 rfl ?_
  refine st_aload_n (pc := 677) dL_law_677 rfl ?_
  refine st_iload_n (pc := 678) dL_law_678 rfl ?_
  refine st_iconst (pc := 679) (v := (1 : Int32)) dL_law_679 rfl ?_
  refine st_iadd (pc := 680) dL_law_680 ?_
  refine bd_sld (pc := 681) hq dL_law_681 hE (fun hq => ?_)
  refine st_aload_n (pc := 682) dL_law_682 rfl ?_
  refine st_iload_n (pc := 683) dL_law_683 rfl ?_
  refine st_iconst (pc := 684) (v := (2 : Int32)) dL_law_684 rfl ?_
  refine st_iadd (pc := 685) dL_law_685 ?_
  refine bd_sld (pc := 686) hq dL_law_686 hE (fun hq => ?_)
  refine st_aload_n (pc := 687) dL_law_687 rfl ?_
  refine st_iload_n (pc := 688) dL_law_688 rfl ?_
  refine st_iconst (pc := 689) (v := (3 : Int32)) dL_law_689 rfl ?_
  refine st_iadd (pc := 690) dL_law_690 ?_
  refine bd_sld (pc := 691) hq dL_law_691 hE (fun hq => ?_)
  refine st_aload_n (pc := 692) dL_law_692 rfl ?_
  refine st_iload_n (pc := 693) dL_law_693 rfl ?_
  refine st_iconst (pc := 694) (v := (4 : Int32)) dL_law_694 rfl ?_
  refine st_iadd (pc := 695) dL_law_695 ?_
  refine bd_sld (pc := 696) hq dL_law_696 hE (fun hq => ?_)
  refine st_aload_n (pc := 697) dL_law_697 rfl ?_
  refine st_iload_n (pc := 698) dL_law_698 rfl ?_
  refine st_iconst (pc := 699) (v := (5 : Int32)) dL_law_699 rfl ?_
  refine st_iadd (pc := 700) dL_law_700 ?_
  refine bd_sld (pc := 701) hq dL_law_701 hE (fun hq => ?_)
  obtain ⟨⟨hbq1, hkq1⟩, hq⟩ := mh_oi hq
  obtain ⟨q1, e1, hq⟩ := mh_ob hq
  refine st_invV (pc := 702) (ci := 11) (vs := [.int (xs (l3 + (1 : Int32)).toNatClampNeg), .int (xs (l3 + (2 : Int32)).toNatClampNeg), .int (xs (l3 + (3 : Int32)).toNatClampNeg), .int (xs (l3 + (4 : Int32)).toNatClampNeg), .int (xs (l3 + (5 : Int32)).toNatClampNeg)]) (rest := []) (st2 := [.int q1.1]) dL_law_702 okX11_pours (by decide) hkq1 hbq1 wd_632 wd_633 wd_634 pdX11_pours rfl rfl rfl rfl (Nat.le_trans (by decide) hd) (Nat.le_of_ble_eq_true rfl) (T_X11_pours (Nat.le_refl _) e1) rfl ?_
  refine st_aload_n (pc := 705) dL_law_705 rfl ?_
  refine st_aload_n (pc := 706) dL_law_706 rfl ?_
  refine st_iload_n (pc := 707) dL_law_707 rfl ?_
  refine st_iconst (pc := 708) (v := (1 : Int32)) dL_law_708 rfl ?_
  refine st_iadd (pc := 709) dL_law_709 ?_
  refine bd_sld (pc := 710) hq dL_law_710 hE (fun hq => ?_)
  refine st_aload_n (pc := 711) dL_law_711 rfl ?_
  refine st_iload_n (pc := 712) dL_law_712 rfl ?_
  refine st_iconst (pc := 713) (v := (2 : Int32)) dL_law_713 rfl ?_
  refine st_iadd (pc := 714) dL_law_714 ?_
  refine bd_sld (pc := 715) hq dL_law_715 hE (fun hq => ?_)
  refine st_aload_n (pc := 716) dL_law_716 rfl ?_
  refine st_iload_n (pc := 717) dL_law_717 rfl ?_
  refine st_iconst (pc := 718) (v := (3 : Int32)) dL_law_718 rfl ?_
  refine st_iadd (pc := 719) dL_law_719 ?_
  refine bd_sld (pc := 720) hq dL_law_720 hE (fun hq => ?_)
  refine st_aload_n (pc := 721) dL_law_721 rfl ?_
  refine st_iload_n (pc := 722) dL_law_722 rfl ?_
  refine st_iconst (pc := 723) (v := (4 : Int32)) dL_law_723 rfl ?_
  refine st_iadd (pc := 724) dL_law_724 ?_
  refine bd_sld (pc := 725) hq dL_law_725 hE (fun hq => ?_)
  refine st_aload_n (pc := 726) dL_law_726 rfl ?_
  refine st_iload_n (pc := 727) dL_law_727 rfl ?_
  refine st_iconst (pc := 728) (v := (5 : Int32)) dL_law_728 rfl ?_
  refine st_iadd (pc := 729) dL_law_729 ?_
  refine bd_sld (pc := 730) hq dL_law_730 hE (fun hq => ?_)
  obtain ⟨⟨hbq2, hkq2⟩, hq⟩ := mh_oi hq
  obtain ⟨q2, e2, hq⟩ := mh_ob hq
  refine st_invV (pc := 731) (ci := 12) (vs := [.int (xs (l3 + (1 : Int32)).toNatClampNeg), .int (xs (l3 + (2 : Int32)).toNatClampNeg), .int (xs (l3 + (3 : Int32)).toNatClampNeg), .int (xs (l3 + (4 : Int32)).toNatClampNeg), .int (xs (l3 + (5 : Int32)).toNatClampNeg)]) (rest := [.int q1.1]) (st2 := [.int q2.1, .int q1.1]) dL_law_731 okX12_pours (by decide) hkq2 hbq2 wd_1436 wd_1437 wd_1438 pdX12_pours rfl rfl rfl rfl (Nat.le_trans (by decide) hd) (Nat.le_of_ble_eq_true rfl) (T_X12_pours (Nat.le_refl _) e2) rfl ?_
  refine bd_icmp_eq (pc := 734) (tgt := 1901) hq dL_law_734 (by decide) (fun _ hq => ?_) (fun _ hq => ?_)
  ·
    exact T_L_law_1901 hd hE hk18 hq
  ·
    refine st_iconst (pc := 737) (v := (0 : Int32)) dL_law_737 rfl ?_
    exact bd_zret (pc := 738) hq dL_law_738 rfl
def D_L_law_739 (N : Nat) (L : Nat) (xs : Nat → Int32) (k18 : mh_H → Nat → Nat → Int32 → Option (Int32 × mh_H)) (h : mh_H) (l1 : Nat) (l2 : Nat) (l3 : Int32) : Option (Int32 × mh_H) :=
  sI L (l3 + (1 : Int32)) <|
  sI L (l3 + (2 : Int32)) <|
  kO h 11 l1 <|
  (D_X11_grains N h l1 (xs (l3 + (1 : Int32)).toNatClampNeg) (xs (l3 + (2 : Int32)).toNatClampNeg)).bind fun q1 =>
  sI L (l3 + (1 : Int32)) <|
  sI L (l3 + (2 : Int32)) <|
  kO q1.2 12 l2 <|
  (D_X12_grains N q1.2 l2 (xs (l3 + (1 : Int32)).toNatClampNeg) (xs (l3 + (2 : Int32)).toNatClampNeg)).bind fun q2 =>
  if q1.1 = q2.1 then (D_L_law_1901 N L xs k18 q2.2 l1 l2 l3)
  else (zB (0 : Int32) q2.2)
set_option maxHeartbeats 4000000 in
set_option maxRecDepth 100000 in
theorem T_L_law_739 {P : mh_E → Prop} {N d : Nat} (hd : 47 ≤ d) {L : Nat} {xs : Nat → Int32} (hE : ∀ E, P E → mh_L E = L ∧ mh_xs E = xs) {z : (Int32 × mh_H)} {k18 : mh_H → Nat → Nat → Int32 → Option (Int32 × mh_H)} (hk18 : ∀ (h : mh_H) (l1 : Nat) (l2 : Nat) (l3 : Int32), k18 h l1 l2 l3 = some z → mh_go P d mL_law 18 [some (.ref 1000000000), some (.ref l1), some (.ref l2), some (.int l3)] [] h (some (.int z.1)) z.2) {h : mh_H} {l1 : Nat} {l2 : Nat} {l3 : Int32} (hq : D_L_law_739 N L xs k18 h l1 l2 l3 = some z) : mh_go P d mL_law 739 [some (.ref 1000000000), some (.ref l1), some (.ref l2), some (.int l3)] [] h (some (.int z.1)) z.2 := by
  unfold D_L_law_739 at hq
  refine st_aload_n (pc := 739) dL_law_739 rfl ?_
  refine st_aload_n (pc := 740) dL_law_740 rfl ?_
  refine st_iload_n (pc := 741) dL_law_741 rfl ?_
  refine st_iconst (pc := 742) (v := (1 : Int32)) dL_law_742 rfl ?_
  refine st_iadd (pc := 743) dL_law_743 ?_
  refine bd_sld (pc := 744) hq dL_law_744 hE (fun hq => ?_)
  refine st_aload_n (pc := 745) dL_law_745 rfl ?_
  refine st_iload_n (pc := 746) dL_law_746 rfl ?_
  refine st_iconst (pc := 747) (v := (2 : Int32)) dL_law_747 rfl ?_
  refine st_iadd (pc := 748) dL_law_748 ?_
  refine bd_sld (pc := 749) hq dL_law_749 hE (fun hq => ?_)
  obtain ⟨⟨hbq1, hkq1⟩, hq⟩ := mh_oi hq
  obtain ⟨q1, e1, hq⟩ := mh_ob hq
  refine st_invV (pc := 750) (ci := 11) (vs := [.int (xs (l3 + (1 : Int32)).toNatClampNeg), .int (xs (l3 + (2 : Int32)).toNatClampNeg)]) (rest := []) (st2 := [.int q1.1]) dL_law_750 okX11_grains (by decide) hkq1 hbq1 wd_639 wd_640 wd_641 pdX11_grains rfl rfl rfl rfl (Nat.le_trans (by decide) hd) (Nat.le_of_ble_eq_true rfl) (T_X11_grains (Nat.le_refl _) e1) rfl ?_
  refine st_aload_n (pc := 753) dL_law_753 rfl ?_
  refine st_aload_n (pc := 754) dL_law_754 rfl ?_
  refine st_iload_n (pc := 755) dL_law_755 rfl ?_
  refine st_iconst (pc := 756) (v := (1 : Int32)) dL_law_756 rfl ?_
  refine st_iadd (pc := 757) dL_law_757 ?_
  refine bd_sld (pc := 758) hq dL_law_758 hE (fun hq => ?_)
  refine st_aload_n (pc := 759) dL_law_759 rfl ?_
  refine st_iload_n (pc := 760) dL_law_760 rfl ?_
  refine st_iconst (pc := 761) (v := (2 : Int32)) dL_law_761 rfl ?_
  refine st_iadd (pc := 762) dL_law_762 ?_
  refine bd_sld (pc := 763) hq dL_law_763 hE (fun hq => ?_)
  obtain ⟨⟨hbq2, hkq2⟩, hq⟩ := mh_oi hq
  obtain ⟨q2, e2, hq⟩ := mh_ob hq
  refine st_invV (pc := 764) (ci := 12) (vs := [.int (xs (l3 + (1 : Int32)).toNatClampNeg), .int (xs (l3 + (2 : Int32)).toNatClampNeg)]) (rest := [.int q1.1]) (st2 := [.int q2.1, .int q1.1]) dL_law_764 okX12_grains (by decide) hkq2 hbq2 wd_1444 wd_1445 wd_1446 pdX12_grains rfl rfl rfl rfl (Nat.le_trans (by decide) hd) (Nat.le_of_ble_eq_true rfl) (T_X12_grains (Nat.le_refl _) e2) rfl ?_
  refine bd_icmp_eq (pc := 767) (tgt := 1901) hq dL_law_767 (by decide) (fun _ hq => ?_) (fun _ hq => ?_)
  ·
    exact T_L_law_1901 hd hE hk18 hq
  ·
    refine st_iconst (pc := 770) (v := (0 : Int32)) dL_law_770 rfl ?_
    exact bd_zret (pc := 771) hq dL_law_771 rfl
def D_L_law_772 (N : Nat) (L : Nat) (xs : Nat → Int32) (k18 : mh_H → Nat → Nat → Int32 → Option (Int32 × mh_H)) (h : mh_H) (l1 : Nat) (l2 : Nat) (l3 : Int32) : Option (Int32 × mh_H) :=
  sI L (l3 + (1 : Int32)) <|
  sI L (l3 + (2 : Int32)) <|
  kO h 11 l1 <|
  (D_X11_stuff N h l1 (xs (l3 + (1 : Int32)).toNatClampNeg) (xs (l3 + (2 : Int32)).toNatClampNeg)).bind fun q1 =>
  sI L (l3 + (1 : Int32)) <|
  sI L (l3 + (2 : Int32)) <|
  kO q1.2 12 l2 <|
  (D_X12_stuff N q1.2 l2 (xs (l3 + (1 : Int32)).toNatClampNeg) (xs (l3 + (2 : Int32)).toNatClampNeg)).bind fun q2 =>
  if q1.1 = q2.1 then (D_L_law_1901 N L xs k18 q2.2 l1 l2 l3)
  else (zB (0 : Int32) q2.2)
set_option maxHeartbeats 4000000 in
set_option maxRecDepth 100000 in
theorem T_L_law_772 {P : mh_E → Prop} {N d : Nat} (hd : 47 ≤ d) {L : Nat} {xs : Nat → Int32} (hE : ∀ E, P E → mh_L E = L ∧ mh_xs E = xs) {z : (Int32 × mh_H)} {k18 : mh_H → Nat → Nat → Int32 → Option (Int32 × mh_H)} (hk18 : ∀ (h : mh_H) (l1 : Nat) (l2 : Nat) (l3 : Int32), k18 h l1 l2 l3 = some z → mh_go P d mL_law 18 [some (.ref 1000000000), some (.ref l1), some (.ref l2), some (.int l3)] [] h (some (.int z.1)) z.2) {h : mh_H} {l1 : Nat} {l2 : Nat} {l3 : Int32} (hq : D_L_law_772 N L xs k18 h l1 l2 l3 = some z) : mh_go P d mL_law 772 [some (.ref 1000000000), some (.ref l1), some (.ref l2), some (.int l3)] [] h (some (.int z.1)) z.2 := by
  unfold D_L_law_772 at hq
  refine st_aload_n (pc := 772) dL_law_772 rfl ?_
  refine st_aload_n (pc := 773) dL_law_773 rfl ?_
  refine st_iload_n (pc := 774) dL_law_774 rfl ?_
  refine st_iconst (pc := 775) (v := (1 : Int32)) dL_law_775 rfl ?_
  refine st_iadd (pc := 776) dL_law_776 ?_
  refine bd_sld (pc := 777) hq dL_law_777 hE (fun hq => ?_)
  refine st_aload_n (pc := 778) dL_law_778 rfl ?_
  refine st_iload_n (pc := 779) dL_law_779 rfl ?_
  refine st_iconst (pc := 780) (v := (2 : Int32)) dL_law_780 rfl ?_
  refine st_iadd (pc := 781) dL_law_781 ?_
  refine bd_sld (pc := 782) hq dL_law_782 hE (fun hq => ?_)
  obtain ⟨⟨hbq1, hkq1⟩, hq⟩ := mh_oi hq
  obtain ⟨q1, e1, hq⟩ := mh_ob hq
  refine st_invV (pc := 783) (ci := 11) (vs := [.int (xs (l3 + (1 : Int32)).toNatClampNeg), .int (xs (l3 + (2 : Int32)).toNatClampNeg)]) (rest := []) (st2 := [.int q1.1]) dL_law_783 okX11_stuff (by decide) hkq1 hbq1 wd_643 wd_644 wd_645 pdX11_stuff rfl rfl rfl rfl (Nat.le_trans (by decide) hd) (Nat.le_of_ble_eq_true rfl) (T_X11_stuff (Nat.le_refl _) e1) rfl ?_
  refine st_aload_n (pc := 786) dL_law_786 rfl ?_
  refine st_aload_n (pc := 787) dL_law_787 rfl ?_
  refine st_iload_n (pc := 788) dL_law_788 rfl ?_
  refine st_iconst (pc := 789) (v := (1 : Int32)) dL_law_789 rfl ?_
  refine st_iadd (pc := 790) dL_law_790 ?_
  refine bd_sld (pc := 791) hq dL_law_791 hE (fun hq => ?_)
  refine st_aload_n (pc := 792) dL_law_792 rfl ?_
  refine st_iload_n (pc := 793) dL_law_793 rfl ?_
  refine st_iconst (pc := 794) (v := (2 : Int32)) dL_law_794 rfl ?_
  refine st_iadd (pc := 795) dL_law_795 ?_
  refine bd_sld (pc := 796) hq dL_law_796 hE (fun hq => ?_)
  obtain ⟨⟨hbq2, hkq2⟩, hq⟩ := mh_oi hq
  obtain ⟨q2, e2, hq⟩ := mh_ob hq
  refine st_invV (pc := 797) (ci := 12) (vs := [.int (xs (l3 + (1 : Int32)).toNatClampNeg), .int (xs (l3 + (2 : Int32)).toNatClampNeg)]) (rest := [.int q1.1]) (st2 := [.int q2.1, .int q1.1]) dL_law_797 okX12_stuff (by decide) hkq2 hbq2 wd_1448 wd_1449 wd_1450 pdX12_stuff rfl rfl rfl rfl (Nat.le_trans (by decide) hd) (Nat.le_of_ble_eq_true rfl) (T_X12_stuff (Nat.le_refl _) e2) rfl ?_
  refine bd_icmp_eq (pc := 800) (tgt := 1901) hq dL_law_800 (by decide) (fun _ hq => ?_) (fun _ hq => ?_)
  ·
    exact T_L_law_1901 hd hE hk18 hq
  ·
    refine st_iconst (pc := 803) (v := (0 : Int32)) dL_law_803 rfl ?_
    exact bd_zret (pc := 804) hq dL_law_804 rfl
def D_L_law_805 (N : Nat) (L : Nat) (xs : Nat → Int32) (k18 : mh_H → Nat → Nat → Int32 → Option (Int32 × mh_H)) (h : mh_H) (l1 : Nat) (l2 : Nat) (l3 : Int32) : Option (Int32 × mh_H) :=
  sI L (l3 + (1 : Int32)) <|
  sI L (l3 + (2 : Int32)) <|
  sI L (l3 + (3 : Int32)) <|
  kO h 11 l1 <|
  (D_X11_out N h l1 (xs (l3 + (1 : Int32)).toNatClampNeg) (xs (l3 + (2 : Int32)).toNatClampNeg) (xs (l3 + (3 : Int32)).toNatClampNeg)).bind fun q1 =>
  sI L (l3 + (1 : Int32)) <|
  sI L (l3 + (2 : Int32)) <|
  sI L (l3 + (3 : Int32)) <|
  kO q1.2 12 l2 <|
  (D_X12_out N q1.2 l2 (xs (l3 + (1 : Int32)).toNatClampNeg) (xs (l3 + (2 : Int32)).toNatClampNeg) (xs (l3 + (3 : Int32)).toNatClampNeg)).bind fun q2 =>
  if q1.1 = q2.1 then (D_L_law_1901 N L xs k18 q2.2 l1 l2 l3)
  else (zB (0 : Int32) q2.2)
set_option maxHeartbeats 4000000 in
set_option maxRecDepth 100000 in
theorem T_L_law_805 {P : mh_E → Prop} {N d : Nat} (hd : 47 ≤ d) {L : Nat} {xs : Nat → Int32} (hE : ∀ E, P E → mh_L E = L ∧ mh_xs E = xs) {z : (Int32 × mh_H)} {k18 : mh_H → Nat → Nat → Int32 → Option (Int32 × mh_H)} (hk18 : ∀ (h : mh_H) (l1 : Nat) (l2 : Nat) (l3 : Int32), k18 h l1 l2 l3 = some z → mh_go P d mL_law 18 [some (.ref 1000000000), some (.ref l1), some (.ref l2), some (.int l3)] [] h (some (.int z.1)) z.2) {h : mh_H} {l1 : Nat} {l2 : Nat} {l3 : Int32} (hq : D_L_law_805 N L xs k18 h l1 l2 l3 = some z) : mh_go P d mL_law 805 [some (.ref 1000000000), some (.ref l1), some (.ref l2), some (.int l3)] [] h (some (.int z.1)) z.2 := by
  unfold D_L_law_805 at hq
  refine st_aload_n (pc := 805) dL_law_805 rfl ?_
  refine st_aload_n (pc := 806) dL_law_806 rfl ?_
  refine st_iload_n (pc := 807) dL_law_807 rfl ?_
  refine st_iconst (pc := 808) (v := (1 : Int32)) dL_law_808 rfl ?_
  refine st_iadd (pc := 809) dL_law_809 ?_
  refine bd_sld (pc := 810) hq dL_law_810 hE (fun hq => ?_)
  refine st_aload_n (pc := 811) dL_law_811 rfl ?_
  refine st_iload_n (pc := 812) dL_law_812 rfl ?_
  refine st_iconst (pc := 813) (v := (2 : Int32)) dL_law_813 rfl ?_
  refine st_iadd (pc := 814) dL_law_814 ?_
  refine bd_sld (pc := 815) hq dL_law_815 hE (fun hq => ?_)
  refine st_aload_n (pc := 816) dL_law_816 rfl ?_
  refine st_iload_n (pc := 817) dL_law_817 rfl ?_
  refine st_iconst (pc := 818) (v := (3 : Int32)) dL_law_818 rfl ?_
  refine st_iadd (pc := 819) dL_law_819 ?_
  refine bd_sld (pc := 820) hq dL_law_820 hE (fun hq => ?_)
  obtain ⟨⟨hbq1, hkq1⟩, hq⟩ := mh_oi hq
  obtain ⟨q1, e1, hq⟩ := mh_ob hq
  refine st_invV (pc := 821) (ci := 11) (vs := [.int (xs (l3 + (1 : Int32)).toNatClampNeg), .int (xs (l3 + (2 : Int32)).toNatClampNeg), .int (xs (l3 + (3 : Int32)).toNatClampNeg)]) (rest := []) (st2 := [.int q1.1]) dL_law_821 okX11_out (by decide) hkq1 hbq1 wd_652 wd_653 wd_654 pdX11_out rfl rfl rfl rfl (Nat.le_trans (by decide) hd) (Nat.le_of_ble_eq_true rfl) (T_X11_out (Nat.le_refl _) e1) rfl ?_
  refine st_aload_n (pc := 824) dL_law_824 rfl ?_
  refine st_aload_n (pc := 825) dL_law_825 rfl ?_
  refine st_iload_n (pc := 826) dL_law_826 rfl ?_
  refine st_iconst (pc := 827) (v := (1 : Int32)) dL_law_827 rfl ?_
  refine st_iadd (pc := 828) dL_law_828 ?_
  refine bd_sld (pc := 829) hq dL_law_829 hE (fun hq => ?_)
  refine st_aload_n (pc := 830) dL_law_830 rfl ?_
  refine st_iload_n (pc := 831) dL_law_831 rfl ?_
  refine st_iconst (pc := 832) (v := (2 : Int32)) dL_law_832 rfl ?_
  refine st_iadd (pc := 833) dL_law_833 ?_
  refine bd_sld (pc := 834) hq dL_law_834 hE (fun hq => ?_)
  refine st_aload_n (pc := 835) dL_law_835 rfl ?_
  refine st_iload_n (pc := 836) dL_law_836 rfl ?_
  refine st_iconst (pc := 837) (v := (3 : Int32)) dL_law_837 rfl ?_
  refine st_iadd (pc := 838) dL_law_838 ?_
  refine bd_sld (pc := 839) hq dL_law_839 hE (fun hq => ?_)
  obtain ⟨⟨hbq2, hkq2⟩, hq⟩ := mh_oi hq
  obtain ⟨q2, e2, hq⟩ := mh_ob hq
  refine st_invV (pc := 840) (ci := 12) (vs := [.int (xs (l3 + (1 : Int32)).toNatClampNeg), .int (xs (l3 + (2 : Int32)).toNatClampNeg), .int (xs (l3 + (3 : Int32)).toNatClampNeg)]) (rest := [.int q1.1]) (st2 := [.int q2.1, .int q1.1]) dL_law_840 okX12_out (by decide) hkq2 hbq2 wd_1456 wd_1457 wd_1458 pdX12_out rfl rfl rfl rfl (Nat.le_trans (by decide) hd) (Nat.le_of_ble_eq_true rfl) (T_X12_out (Nat.le_refl _) e2) rfl ?_
  refine bd_icmp_eq (pc := 843) (tgt := 1901) hq dL_law_843 (by decide) (fun _ hq => ?_) (fun _ hq => ?_)
  ·
    exact T_L_law_1901 hd hE hk18 hq
  ·
    refine st_iconst (pc := 846) (v := (0 : Int32)) dL_law_846 rfl ?_
    exact bd_zret (pc := 847) hq dL_law_847 rfl
def D_L_law_848 (N : Nat) (L : Nat) (xs : Nat → Int32) (k18 : mh_H → Nat → Nat → Int32 → Option (Int32 × mh_H)) (h : mh_H) (l1 : Nat) (l2 : Nat) (l3 : Int32) : Option (Int32 × mh_H) :=
  sI L (l3 + (1 : Int32)) <|
  sI L (l3 + (2 : Int32)) <|
  sI L (l3 + (3 : Int32)) <|
  sI L (l3 + (4 : Int32)) <|
  kO h 11 l1 <|
  (D_X11_spill N h l1 (xs (l3 + (1 : Int32)).toNatClampNeg) (xs (l3 + (2 : Int32)).toNatClampNeg) (xs (l3 + (3 : Int32)).toNatClampNeg) (xs (l3 + (4 : Int32)).toNatClampNeg)).bind fun q1 =>
  sI L (l3 + (1 : Int32)) <|
  sI L (l3 + (2 : Int32)) <|
  sI L (l3 + (3 : Int32)) <|
  sI L (l3 + (4 : Int32)) <|
  kO q1.2 12 l2 <|
  (D_X12_spill N q1.2 l2 (xs (l3 + (1 : Int32)).toNatClampNeg) (xs (l3 + (2 : Int32)).toNatClampNeg) (xs (l3 + (3 : Int32)).toNatClampNeg) (xs (l3 + (4 : Int32)).toNatClampNeg)).bind fun q2 =>
  if q1.1 = q2.1 then (D_L_law_1901 N L xs k18 q2.2 l1 l2 l3)
  else (zB (0 : Int32) q2.2)
set_option maxHeartbeats 4000000 in
set_option maxRecDepth 100000 in
theorem T_L_law_848 {P : mh_E → Prop} {N d : Nat} (hd : 47 ≤ d) {L : Nat} {xs : Nat → Int32} (hE : ∀ E, P E → mh_L E = L ∧ mh_xs E = xs) {z : (Int32 × mh_H)} {k18 : mh_H → Nat → Nat → Int32 → Option (Int32 × mh_H)} (hk18 : ∀ (h : mh_H) (l1 : Nat) (l2 : Nat) (l3 : Int32), k18 h l1 l2 l3 = some z → mh_go P d mL_law 18 [some (.ref 1000000000), some (.ref l1), some (.ref l2), some (.int l3)] [] h (some (.int z.1)) z.2) {h : mh_H} {l1 : Nat} {l2 : Nat} {l3 : Int32} (hq : D_L_law_848 N L xs k18 h l1 l2 l3 = some z) : mh_go P d mL_law 848 [some (.ref 1000000000), some (.ref l1), some (.ref l2), some (.int l3)] [] h (some (.int z.1)) z.2 := by
  unfold D_L_law_848 at hq
  refine st_aload_n (pc := 848) dL_law_848 rfl ?_
  refine st_aload_n (pc := 849) dL_law_849 rfl ?_
  refine st_iload_n (pc := 850) dL_law_850 rfl ?_
  refine st_iconst (pc := 851) (v := (1 : Int32)) dL_law_851 rfl ?_
  refine st_iadd (pc := 852) dL_law_852 ?_
  refine bd_sld (pc := 853) hq dL_law_853 hE (fun hq => ?_)
  refine st_aload_n (pc := 854) dL_law_854 rfl ?_
  refine st_iload_n (pc := 855) dL_law_855 rfl ?_
  refine st_iconst (pc := 856) (v := (2 : Int32)) dL_law_856 rfl ?_
  refine st_iadd (pc := 857) dL_law_857 ?_
  refine bd_sld (pc := 858) hq dL_law_858 hE (fun hq => ?_)
  refine st_aload_n (pc := 859) dL_law_859 rfl ?_
  refine st_iload_n (pc := 860) dL_law_860 rfl ?_
  refine st_iconst (pc := 861) (v := (3 : Int32)) dL_law_861 rfl ?_
  refine st_iadd (pc := 862) dL_law_862 ?_
  refine bd_sld (pc := 863) hq dL_law_863 hE (fun hq => ?_)
  refine st_aload_n (pc := 864) dL_law_864 rfl ?_
  refine st_iload_n (pc := 865) dL_law_865 rfl ?_
  refine st_iconst (pc := 866) (v := (4 : Int32)) dL_law_866 rfl ?_
  refine st_iadd (pc := 867) dL_law_867 ?_
  refine bd_sld (pc := 868) hq dL_law_868 hE (fun hq => ?_)
  obtain ⟨⟨hbq1, hkq1⟩, hq⟩ := mh_oi hq
  obtain ⟨q1, e1, hq⟩ := mh_ob hq
  refine st_invV (pc := 869) (ci := 11) (vs := [.int (xs (l3 + (1 : Int32)).toNatClampNeg), .int (xs (l3 + (2 : Int32)).toNatClampNeg), .int (xs (l3 + (3 : Int32)).toNatClampNeg), .int (xs (l3 + (4 : Int32)).toNatClampNeg)]) (rest := []) (st2 := [.int q1.1]) dL_law_869 okX11_spill (by decide) hkq1 hbq1 wd_660 wd_661 wd_662 pdX11_spill rfl rfl rfl rfl (Nat.le_trans (by decide) hd) (Nat.le_of_ble_eq_true rfl) (T_X11_spill (Nat.le_refl _) e1) rfl ?_
  refine st_aload_n (pc := 872) dL_law_872 rfl ?_
  refine st_aload_n (pc := 873) dL_law_873 rfl ?_
  refine st_iload_n (pc := 874) dL_law_874 rfl ?_
  refine st_iconst (pc := 875) (v := (1 : Int32)) dL_law_875 rfl ?_
  refine st_iadd (pc := 876) dL_law_876 ?_
  refine bd_sld (pc := 877) hq dL_law_877 hE (fun hq => ?_)
  refine st_aload_n (pc := 878) dL_law_878 rfl ?_
  refine st_iload_n (pc := 879) dL_law_879 rfl ?_
  refine st_iconst (pc := 880) (v := (2 : Int32)) dL_law_880 rfl ?_
  refine st_iadd (pc := 881) dL_law_881 ?_
  refine bd_sld (pc := 882) hq dL_law_882 hE (fun hq => ?_)
  refine st_aload_n (pc := 883) dL_law_883 rfl ?_
  refine st_iload_n (pc := 884) dL_law_884 rfl ?_
  refine st_iconst (pc := 885) (v := (3 : Int32)) dL_law_885 rfl ?_
  refine st_iadd (pc := 886) dL_law_886 ?_
  refine bd_sld (pc := 887) hq dL_law_887 hE (fun hq => ?_)
  refine st_aload_n (pc := 888) dL_law_888 rfl ?_
  refine st_iload_n (pc := 889) dL_law_889 rfl ?_
  refine st_iconst (pc := 890) (v := (4 : Int32)) dL_law_890 rfl ?_
  refine st_iadd (pc := 891) dL_law_891 ?_
  refine bd_sld (pc := 892) hq dL_law_892 hE (fun hq => ?_)
  obtain ⟨⟨hbq2, hkq2⟩, hq⟩ := mh_oi hq
  obtain ⟨q2, e2, hq⟩ := mh_ob hq
  refine st_invV (pc := 893) (ci := 12) (vs := [.int (xs (l3 + (1 : Int32)).toNatClampNeg), .int (xs (l3 + (2 : Int32)).toNatClampNeg), .int (xs (l3 + (3 : Int32)).toNatClampNeg), .int (xs (l3 + (4 : Int32)).toNatClampNeg)]) (rest := [.int q1.1]) (st2 := [.int q2.1, .int q1.1]) dL_law_893 okX12_spill (by decide) hkq2 hbq2 wd_1465 wd_1466 wd_1467 pdX12_spill rfl rfl rfl rfl (Nat.le_trans (by decide) hd) (Nat.le_of_ble_eq_true rfl) (T_X12_spill (Nat.le_refl _) e2) rfl ?_
  refine bd_icmp_eq (pc := 896) (tgt := 1901) hq dL_law_896 (by decide) (fun _ hq => ?_) (fun _ hq => ?_)
  ·
    exact T_L_law_1901 hd hE hk18 hq
  ·
    refine st_iconst (pc := 899) (v := (0 : Int32)) dL_law_899 rfl ?_
    exact bd_zret (pc := 900) hq dL_law_900 rfl
def D_L_law_901 (N : Nat) (L : Nat) (xs : Nat → Int32) (k18 : mh_H → Nat → Nat → Int32 → Option (Int32 × mh_H)) (h : mh_H) (l1 : Nat) (l2 : Nat) (l3 : Int32) : Option (Int32 × mh_H) :=
  sI L (l3 + (1 : Int32)) <|
  sI L (l3 + (2 : Int32)) <|
  sI L (l3 + (3 : Int32)) <|
  kO h 11 l1 <|
  (D_X11_first N h l1 (xs (l3 + (1 : Int32)).toNatClampNeg) (xs (l3 + (2 : Int32)).toNatClampNeg) (xs (l3 + (3 : Int32)).toNatClampNeg)).bind fun q1 =>
  sI L (l3 + (1 : Int32)) <|
  sI L (l3 + (2 : Int32)) <|
  sI L (l3 + (3 : Int32)) <|
  kO q1.2 12 l2 <|
  (D_X12_first N q1.2 l2 (xs (l3 + (1 : Int32)).toNatClampNeg) (xs (l3 + (2 : Int32)).toNatClampNeg) (xs (l3 + (3 : Int32)).toNatClampNeg)).bind fun q2 =>
  if q1.1 = q2.1 then (D_L_law_1901 N L xs k18 q2.2 l1 l2 l3)
  else (zB (0 : Int32) q2.2)
set_option maxHeartbeats 4000000 in
set_option maxRecDepth 100000 in
theorem T_L_law_901 {P : mh_E → Prop} {N d : Nat} (hd : 47 ≤ d) {L : Nat} {xs : Nat → Int32} (hE : ∀ E, P E → mh_L E = L ∧ mh_xs E = xs) {z : (Int32 × mh_H)} {k18 : mh_H → Nat → Nat → Int32 → Option (Int32 × mh_H)} (hk18 : ∀ (h : mh_H) (l1 : Nat) (l2 : Nat) (l3 : Int32), k18 h l1 l2 l3 = some z → mh_go P d mL_law 18 [some (.ref 1000000000), some (.ref l1), some (.ref l2), some (.int l3)] [] h (some (.int z.1)) z.2) {h : mh_H} {l1 : Nat} {l2 : Nat} {l3 : Int32} (hq : D_L_law_901 N L xs k18 h l1 l2 l3 = some z) : mh_go P d mL_law 901 [some (.ref 1000000000), some (.ref l1), some (.ref l2), some (.int l3)] [] h (some (.int z.1)) z.2 := by
  unfold D_L_law_901 at hq
  refine st_aload_n (pc := 901) dL_law_901 rfl ?_
  refine st_aload_n (pc := 902) dL_law_902 rfl ?_
  refine st_iload_n (pc := 903) dL_law_903 rfl ?_
  refine st_iconst (pc := 904) (v := (1 : Int32)) dL_law_904 rfl ?_
  refine st_iadd (pc := 905) dL_law_905 ?_
  refine bd_sld (pc := 906) hq dL_law_906 hE (fun hq => ?_)
  refine st_aload_n (pc := 907) dL_law_907 rfl ?_
  refine st_iload_n (pc := 908) dL_law_908 rfl ?_
  refine st_iconst (pc := 909) (v := (2 : Int32)) dL_law_909 rfl ?_
  refine st_iadd (pc := 910) dL_law_910 ?_
  refine bd_sld (pc := 911) hq dL_law_911 hE (fun hq => ?_)
  refine st_aload_n (pc := 912) dL_law_912 rfl ?_
  refine st_iload_n (pc := 913) dL_law_913 rfl ?_
  refine st_iconst (pc := 914) (v := (3 : Int32)) dL_law_914 rfl ?_
  refine st_iadd (pc := 915) dL_law_915 ?_
  refine bd_sld (pc := 916) hq dL_law_916 hE (fun hq => ?_)
  obtain ⟨⟨hbq1, hkq1⟩, hq⟩ := mh_oi hq
  obtain ⟨q1, e1, hq⟩ := mh_ob hq
  refine st_invV (pc := 917) (ci := 11) (vs := [.int (xs (l3 + (1 : Int32)).toNatClampNeg), .int (xs (l3 + (2 : Int32)).toNatClampNeg), .int (xs (l3 + (3 : Int32)).toNatClampNeg)]) (rest := []) (st2 := [.int q1.1]) dL_law_917 okX11_first (by decide) hkq1 hbq1 wd_679 wd_680 wd_681 pdX11_first rfl rfl rfl rfl (Nat.le_trans (by decide) hd) (Nat.le_of_ble_eq_true rfl) (T_X11_first (Nat.le_refl _) e1) rfl ?_
  refine st_aload_n (pc := 920) dL_law_920 rfl ?_
  refine st_aload_n (pc := 921) dL_law_921 rfl ?_
  refine st_iload_n (pc := 922) dL_law_922 rfl ?_
  refine st_iconst (pc := 923) (v := (1 : Int32)) dL_law_923 rfl ?_
  refine st_iadd (pc := 924) dL_law_924 ?_
  refine bd_sld (pc := 925) hq dL_law_925 hE (fun hq => ?_)
  refine st_aload_n (pc := 926) dL_law_926 rfl ?_
  refine st_iload_n (pc := 927) dL_law_927 rfl ?_
  refine st_iconst (pc := 928) (v := (2 : Int32)) dL_law_928 rfl ?_
  refine st_iadd (pc := 929) dL_law_929 ?_
  refine bd_sld (pc := 930) hq dL_law_930 hE (fun hq => ?_)
  refine st_aload_n (pc := 931) dL_law_931 rfl ?_
  refine st_iload_n (pc := 932) dL_law_932 rfl ?_
  refine st_iconst (pc := 933) (v := (3 : Int32)) dL_law_933 rfl ?_
  refine st_iadd (pc := 934) dL_law_934 ?_
  refine bd_sld (pc := 935) hq dL_law_935 hE (fun hq => ?_)
  obtain ⟨⟨hbq2, hkq2⟩, hq⟩ := mh_oi hq
  obtain ⟨q2, e2, hq⟩ := mh_ob hq
  refine st_invV (pc := 936) (ci := 12) (vs := [.int (xs (l3 + (1 : Int32)).toNatClampNeg), .int (xs (l3 + (2 : Int32)).toNatClampNeg), .int (xs (l3 + (3 : Int32)).toNatClampNeg)]) (rest := [.int q1.1]) (st2 := [.int q2.1, .int q1.1]) dL_law_936 okX12_first (by decide) hkq2 hbq2 wd_1485 wd_1486 wd_1487 pdX12_first rfl rfl rfl rfl (Nat.le_trans (by decide) hd) (Nat.le_of_ble_eq_true rfl) (T_X12_first (Nat.le_refl _) e2) rfl ?_
  refine bd_icmp_eq (pc := 939) (tgt := 1901) hq dL_law_939 (by decide) (fun _ hq => ?_) (fun _ hq => ?_)
  ·
    exact T_L_law_1901 hd hE hk18 hq
  ·
    refine st_iconst (pc := 942) (v := (0 : Int32)) dL_law_942 rfl ?_
    exact bd_zret (pc := 943) hq dL_law_943 rfl
def D_L_law_944 (N : Nat) (L : Nat) (xs : Nat → Int32) (k18 : mh_H → Nat → Nat → Int32 → Option (Int32 × mh_H)) (h : mh_H) (l1 : Nat) (l2 : Nat) (l3 : Int32) : Option (Int32 × mh_H) :=
  sI L (l3 + (1 : Int32)) <|
  sI L (l3 + (2 : Int32)) <|
  sI L (l3 + (3 : Int32)) <|
  kO h 11 l1 <|
  (D_X11_feed N h l1 ((((xs (l3 + (1 : Int32)).toNatClampNeg).toInt64) <<< ((32 : Int32).toInt64 &&& 63)) ||| (((xs (l3 + (2 : Int32)).toNatClampNeg).toInt64) &&& (4294967295 : Int64))) (xs (l3 + (3 : Int32)).toNatClampNeg)).bind fun q1 =>
  sI L (l3 + (1 : Int32)) <|
  sI L (l3 + (2 : Int32)) <|
  sI L (l3 + (3 : Int32)) <|
  kO q1.2 12 l2 <|
  (D_X12_feed N q1.2 l2 ((((xs (l3 + (1 : Int32)).toNatClampNeg).toInt64) <<< ((32 : Int32).toInt64 &&& 63)) ||| (((xs (l3 + (2 : Int32)).toNatClampNeg).toInt64) &&& (4294967295 : Int64))) (xs (l3 + (3 : Int32)).toNatClampNeg)).bind fun q2 =>
  if q1.1 = q2.1 then (D_L_law_1901 N L xs k18 q2.2 l1 l2 l3)
  else (zB (0 : Int32) q2.2)
set_option maxHeartbeats 4000000 in
set_option maxRecDepth 100000 in
theorem T_L_law_944 {P : mh_E → Prop} {N d : Nat} (hd : 47 ≤ d) {L : Nat} {xs : Nat → Int32} (hE : ∀ E, P E → mh_L E = L ∧ mh_xs E = xs) {z : (Int32 × mh_H)} {k18 : mh_H → Nat → Nat → Int32 → Option (Int32 × mh_H)} (hk18 : ∀ (h : mh_H) (l1 : Nat) (l2 : Nat) (l3 : Int32), k18 h l1 l2 l3 = some z → mh_go P d mL_law 18 [some (.ref 1000000000), some (.ref l1), some (.ref l2), some (.int l3)] [] h (some (.int z.1)) z.2) {h : mh_H} {l1 : Nat} {l2 : Nat} {l3 : Int32} (hq : D_L_law_944 N L xs k18 h l1 l2 l3 = some z) : mh_go P d mL_law 944 [some (.ref 1000000000), some (.ref l1), some (.ref l2), some (.int l3)] [] h (some (.int z.1)) z.2 := by
  unfold D_L_law_944 at hq
  refine st_aload_n (pc := 944) dL_law_944 rfl ?_
  refine st_aload_n (pc := 945) dL_law_945 rfl ?_
  refine st_iload_n (pc := 946) dL_law_946 rfl ?_
  refine st_iconst (pc := 947) (v := (1 : Int32)) dL_law_947 rfl ?_
  refine st_iadd (pc := 948) dL_law_948 ?_
  refine bd_sld (pc := 949) hq dL_law_949 hE (fun hq => ?_)
  refine st_i2l (pc := 950) dL_law_950 ?_
  refine st_bipush (pc := 951) (v := (32 : Int32)) dL_law_951 (by decide) ?_
  refine st_lshl (pc := 953) dL_law_953 ?_
  refine st_aload_n (pc := 954) dL_law_954 rfl ?_
  refine st_iload_n (pc := 955) dL_law_955 rfl ?_
  refine st_iconst (pc := 956) (v := (2 : Int32)) dL_law_956 rfl ?_
  refine st_iadd (pc := 957) dL_law_957 ?_
  refine bd_sld (pc := 958) hq dL_law_958 hE (fun hq => ?_)
  refine st_i2l (pc := 959) dL_law_959 ?_
  refine st_ldc2 (pc := 960) (v := (4294967295 : Int64)) dL_law_960 wd_1733 ?_
  refine st_land (pc := 963) dL_law_963 ?_
  refine st_lor (pc := 964) dL_law_964 ?_
  refine st_aload_n (pc := 965) dL_law_965 rfl ?_
  refine st_iload_n (pc := 966) dL_law_966 rfl ?_
  refine st_iconst (pc := 967) (v := (3 : Int32)) dL_law_967 rfl ?_
  refine st_iadd (pc := 968) dL_law_968 ?_
  refine bd_sld (pc := 969) hq dL_law_969 hE (fun hq => ?_)
  obtain ⟨⟨hbq1, hkq1⟩, hq⟩ := mh_oi hq
  obtain ⟨q1, e1, hq⟩ := mh_ob hq
  refine st_invV (pc := 970) (ci := 11) (vs := [.long ((((xs (l3 + (1 : Int32)).toNatClampNeg).toInt64) <<< ((32 : Int32).toInt64 &&& 63)) ||| (((xs (l3 + (2 : Int32)).toNatClampNeg).toInt64) &&& (4294967295 : Int64))), .int (xs (l3 + (3 : Int32)).toNatClampNeg)]) (rest := []) (st2 := [.int q1.1]) dL_law_970 okX11_feed (by decide) hkq1 hbq1 wd_683 wd_684 wd_685 pdX11_feed rfl rfl rfl rfl (Nat.le_trans (by decide) hd) (Nat.le_of_ble_eq_true rfl) (T_X11_feed (Nat.le_refl _) e1) rfl ?_
  refine st_aload_n (pc := 973) dL_law_973 rfl ?_
  refine st_aload_n (pc := 974) dL_law_974 rfl ?_
  refine st_iload_n (pc := 975) dL_law_975 rfl ?_
  refine st_iconst (pc := 976) (v := (1 : Int32)) dL_law_976 rfl ?_
  refine st_iadd (pc := 977) dL_law_977 ?_
  refine bd_sld (pc := 978) hq dL_law_978 hE (fun hq => ?_)
  refine st_i2l (pc := 979) dL_law_979 ?_
  refine st_bipush (pc := 980) (v := (32 : Int32)) dL_law_980 (by decide) ?_
  refine st_lshl (pc := 982) dL_law_982 ?_
  refine st_aload_n (pc := 983) dL_law_983 rfl ?_
  refine st_iload_n (pc := 984) dL_law_984 rfl ?_
  refine st_iconst (pc := 985) (v := (2 : Int32)) dL_law_985 rfl ?_
  refine st_iadd (pc := 986) dL_law_986 ?_
  refine bd_sld (pc := 987) hq dL_law_987 hE (fun hq => ?_)
  refine st_i2l (pc := 988) dL_law_988 ?_
  refine st_ldc2 (pc := 989) (v := (4294967295 : Int64)) dL_law_989 wd_1733 ?_
  refine st_land (pc := 992) dL_law_992 ?_
  refine st_lor (pc := 993) dL_law_993 ?_
  refine st_aload_n (pc := 994) dL_law_994 rfl ?_
  refine st_iload_n (pc := 995) dL_law_995 rfl ?_
  refine st_iconst (pc := 996) (v := (3 : Int32)) dL_law_996 rfl ?_
  refine st_iadd (pc := 997) dL_law_997 ?_
  refine bd_sld (pc := 998) hq dL_law_998 hE (fun hq => ?_)
  obtain ⟨⟨hbq2, hkq2⟩, hq⟩ := mh_oi hq
  obtain ⟨q2, e2, hq⟩ := mh_ob hq
  refine st_invV (pc := 999) (ci := 12) (vs := [.long ((((xs (l3 + (1 : Int32)).toNatClampNeg).toInt64) <<< ((32 : Int32).toInt64 &&& 63)) ||| (((xs (l3 + (2 : Int32)).toNatClampNeg).toInt64) &&& (4294967295 : Int64))), .int (xs (l3 + (3 : Int32)).toNatClampNeg)]) (rest := [.int q1.1]) (st2 := [.int q2.1, .int q1.1]) dL_law_999 okX12_feed (by decide) hkq2 hbq2 wd_1489 wd_1490 wd_1491 pdX12_feed rfl rfl rfl rfl (Nat.le_trans (by decide) hd) (Nat.le_of_ble_eq_true rfl) (T_X12_feed (Nat.le_refl _) e2) rfl ?_
  refine bd_icmp_eq (pc := 1002) (tgt := 1901) hq dL_law_1002 (by decide) (fun _ hq => ?_) (fun _ hq => ?_)
  ·
    exact T_L_law_1901 hd hE hk18 hq
  ·
    refine st_iconst (pc := 1005) (v := (0 : Int32)) dL_law_1005 rfl ?_
    exact bd_zret (pc := 1006) hq dL_law_1006 rfl
def D_L_law_1007 (N : Nat) (L : Nat) (xs : Nat → Int32) (k18 : mh_H → Nat → Nat → Int32 → Option (Int32 × mh_H)) (h : mh_H) (l1 : Nat) (l2 : Nat) (l3 : Int32) : Option (Int32 × mh_H) :=
  sI L (l3 + (1 : Int32)) <|
  kO h 11 l1 <|
  (D_X11_text N h l1 (xs (l3 + (1 : Int32)).toNatClampNeg)).bind fun q1 =>
  sI L (l3 + (1 : Int32)) <|
  kO q1.2 12 l2 <|
  (D_X12_text N q1.2 l2 (xs (l3 + (1 : Int32)).toNatClampNeg)).bind fun q2 =>
  if q1.1 = q2.1 then (D_L_law_1901 N L xs k18 q2.2 l1 l2 l3)
  else (zB (0 : Int32) q2.2)
set_option maxHeartbeats 4000000 in
set_option maxRecDepth 100000 in
theorem T_L_law_1007 {P : mh_E → Prop} {N d : Nat} (hd : 47 ≤ d) {L : Nat} {xs : Nat → Int32} (hE : ∀ E, P E → mh_L E = L ∧ mh_xs E = xs) {z : (Int32 × mh_H)} {k18 : mh_H → Nat → Nat → Int32 → Option (Int32 × mh_H)} (hk18 : ∀ (h : mh_H) (l1 : Nat) (l2 : Nat) (l3 : Int32), k18 h l1 l2 l3 = some z → mh_go P d mL_law 18 [some (.ref 1000000000), some (.ref l1), some (.ref l2), some (.int l3)] [] h (some (.int z.1)) z.2) {h : mh_H} {l1 : Nat} {l2 : Nat} {l3 : Int32} (hq : D_L_law_1007 N L xs k18 h l1 l2 l3 = some z) : mh_go P d mL_law 1007 [some (.ref 1000000000), some (.ref l1), some (.ref l2), some (.int l3)] [] h (some (.int z.1)) z.2 := by
  unfold D_L_law_1007 at hq
  refine st_aload_n (pc := 1007) dL_law_1007 rfl ?_
  refine st_aload_n (pc := 1008) dL_law_1008 rfl ?_
  refine st_iload_n (pc := 1009) dL_law_1009 rfl ?_
  refine st_iconst (pc := 1010) (v := (1 : Int32)) dL_law_1010 rfl ?_
  refine st_iadd (pc := 1011) dL_law_1011 ?_
  refine bd_sld (pc := 1012) hq dL_law_1012 hE (fun hq => ?_)
  obtain ⟨⟨hbq1, hkq1⟩, hq⟩ := mh_oi hq
  obtain ⟨q1, e1, hq⟩ := mh_ob hq
  refine st_invV (pc := 1013) (ci := 11) (vs := [.int (xs (l3 + (1 : Int32)).toNatClampNeg)]) (rest := []) (st2 := [.int q1.1]) dL_law_1013 okX11_text (by decide) hkq1 hbq1 wd_691 wd_692 wd_693 pdX11_text rfl rfl rfl rfl (Nat.le_trans (by decide) hd) (Nat.le_of_ble_eq_true rfl) (T_X11_text (Nat.le_refl _) e1) rfl ?_
  refine st_aload_n (pc := 1016) dL_law_1016 rfl ?_
  refine st_aload_n (pc := 1017) dL_law_1017 rfl ?_
  refine st_iload_n (pc := 1018) dL_law_1018 rfl ?_
  refine st_iconst (pc := 1019) (v := (1 : Int32)) dL_law_1019 rfl ?_
  refine st_iadd (pc := 1020) dL_law_1020 ?_
  refine bd_sld (pc := 1021) hq dL_law_1021 hE (fun hq => ?_)
  obtain ⟨⟨hbq2, hkq2⟩, hq⟩ := mh_oi hq
  obtain ⟨q2, e2, hq⟩ := mh_ob hq
  refine st_invV (pc := 1022) (ci := 12) (vs := [.int (xs (l3 + (1 : Int32)).toNatClampNeg)]) (rest := [.int q1.1]) (st2 := [.int q2.1, .int q1.1]) dL_law_1022 okX12_text (by decide) hkq2 hbq2 wd_1495 wd_1496 wd_1497 pdX12_text rfl rfl rfl rfl (Nat.le_trans (by decide) hd) (Nat.le_of_ble_eq_true rfl) (T_X12_text (Nat.le_refl _) e2) rfl ?_
  refine bd_icmp_eq (pc := 1025) (tgt := 1901) hq dL_law_1025 (by decide) (fun _ hq => ?_) (fun _ hq => ?_)
  ·
    exact T_L_law_1901 hd hE hk18 hq
  ·
    refine st_iconst (pc := 1028) (v := (0 : Int32)) dL_law_1028 rfl ?_
    exact bd_zret (pc := 1029) hq dL_law_1029 rfl
def D_L_law_1030 (N : Nat) (L : Nat) (xs : Nat → Int32) (k18 : mh_H → Nat → Nat → Int32 → Option (Int32 × mh_H)) (h : mh_H) (l1 : Nat) (l2 : Nat) (l3 : Int32) : Option (Int32 × mh_H) :=
  sI L (l3 + (1 : Int32)) <|
  kO h 11 l1 <|
  (D_X11_rain N h l1 (xs (l3 + (1 : Int32)).toNatClampNeg)).bind fun q1 =>
  sI L (l3 + (1 : Int32)) <|
  kO q1.2 12 l2 <|
  (D_X12_rain N q1.2 l2 (xs (l3 + (1 : Int32)).toNatClampNeg)).bind fun q2 =>
  if q1.1 = q2.1 then (D_L_law_1901 N L xs k18 q2.2 l1 l2 l3)
  else (zB (0 : Int32) q2.2)
set_option maxHeartbeats 4000000 in
set_option maxRecDepth 100000 in
theorem T_L_law_1030 {P : mh_E → Prop} {N d : Nat} (hd : 47 ≤ d) {L : Nat} {xs : Nat → Int32} (hE : ∀ E, P E → mh_L E = L ∧ mh_xs E = xs) {z : (Int32 × mh_H)} {k18 : mh_H → Nat → Nat → Int32 → Option (Int32 × mh_H)} (hk18 : ∀ (h : mh_H) (l1 : Nat) (l2 : Nat) (l3 : Int32), k18 h l1 l2 l3 = some z → mh_go P d mL_law 18 [some (.ref 1000000000), some (.ref l1), some (.ref l2), some (.int l3)] [] h (some (.int z.1)) z.2) {h : mh_H} {l1 : Nat} {l2 : Nat} {l3 : Int32} (hq : D_L_law_1030 N L xs k18 h l1 l2 l3 = some z) : mh_go P d mL_law 1030 [some (.ref 1000000000), some (.ref l1), some (.ref l2), some (.int l3)] [] h (some (.int z.1)) z.2 := by
  unfold D_L_law_1030 at hq
  refine st_aload_n (pc := 1030) dL_law_1030 rfl ?_
  refine st_aload_n (pc := 1031) dL_law_1031 rfl ?_
  refine st_iload_n (pc := 1032) dL_law_1032 rfl ?_
  refine st_iconst (pc := 1033) (v := (1 : Int32)) dL_law_1033 rfl ?_
  refine st_iadd (pc := 1034) dL_law_1034 ?_
  refine bd_sld (pc := 1035) hq dL_law_1035 hE (fun hq => ?_)
  obtain ⟨⟨hbq1, hkq1⟩, hq⟩ := mh_oi hq
  obtain ⟨q1, e1, hq⟩ := mh_ob hq
  refine st_invV (pc := 1036) (ci := 11) (vs := [.int (xs (l3 + (1 : Int32)).toNatClampNeg)]) (rest := []) (st2 := [.int q1.1]) dL_law_1036 okX11_rain (by decide) hkq1 hbq1 wd_826 wd_827 wd_828 pdX11_rain rfl rfl rfl rfl (Nat.le_trans (by decide) hd) (Nat.le_of_ble_eq_true rfl) (T_X11_rain (Nat.le_refl _) e1) rfl ?_
  refine st_aload_n (pc := 1039) dL_law_1039 rfl ?_
  refine st_aload_n (pc := 1040) dL_law_1040 rfl ?_
  refine st_iload_n (pc := 1041) dL_law_1041 rfl ?_
  refine st_iconst (pc := 1042) (v := (1 : Int32)) dL_law_1042 rfl ?_
  refine st_iadd (pc := 1043) dL_law_1043 ?_
  refine bd_sld (pc := 1044) hq dL_law_1044 hE (fun hq => ?_)
  obtain ⟨⟨hbq2, hkq2⟩, hq⟩ := mh_oi hq
  obtain ⟨q2, e2, hq⟩ := mh_ob hq
  refine st_invV (pc := 1045) (ci := 12) (vs := [.int (xs (l3 + (1 : Int32)).toNatClampNeg)]) (rest := [.int q1.1]) (st2 := [.int q2.1, .int q1.1]) dL_law_1045 okX12_rain (by decide) hkq2 hbq2 wd_1536 wd_1537 wd_1538 pdX12_rain rfl rfl rfl rfl (Nat.le_trans (by decide) hd) (Nat.le_of_ble_eq_true rfl) (T_X12_rain (Nat.le_refl _) e2) rfl ?_
  refine bd_icmp_eq (pc := 1048) (tgt := 1901) hq dL_law_1048 (by decide) (fun _ hq => ?_) (fun _ hq => ?_)
  ·
    exact T_L_law_1901 hd hE hk18 hq
  ·
    refine st_iconst (pc := 1051) (v := (0 : Int32)) dL_law_1051 rfl ?_
    exact bd_zret (pc := 1052) hq dL_law_1052 rfl
def D_L_law_1053 (N : Nat) (L : Nat) (xs : Nat → Int32) (k18 : mh_H → Nat → Nat → Int32 → Option (Int32 × mh_H)) (h : mh_H) (l1 : Nat) (l2 : Nat) (l3 : Int32) : Option (Int32 × mh_H) :=
  sI L (l3 + (1 : Int32)) <|
  sI L (l3 + (2 : Int32)) <|
  sI L (l3 + (3 : Int32)) <|
  kO h 11 l1 <|
  (D_X11_seen N h l1 (xs (l3 + (1 : Int32)).toNatClampNeg) (xs (l3 + (2 : Int32)).toNatClampNeg) (xs (l3 + (3 : Int32)).toNatClampNeg)).bind fun q1 =>
  sI L (l3 + (1 : Int32)) <|
  sI L (l3 + (2 : Int32)) <|
  sI L (l3 + (3 : Int32)) <|
  kO q1.2 12 l2 <|
  (D_X12_seen N q1.2 l2 (xs (l3 + (1 : Int32)).toNatClampNeg) (xs (l3 + (2 : Int32)).toNatClampNeg) (xs (l3 + (3 : Int32)).toNatClampNeg)).bind fun q2 =>
  if q1.1 = q2.1 then (D_L_law_1901 N L xs k18 q2.2 l1 l2 l3)
  else (zB (0 : Int32) q2.2)
set_option maxHeartbeats 4000000 in
set_option maxRecDepth 100000 in
theorem T_L_law_1053 {P : mh_E → Prop} {N d : Nat} (hd : 47 ≤ d) {L : Nat} {xs : Nat → Int32} (hE : ∀ E, P E → mh_L E = L ∧ mh_xs E = xs) {z : (Int32 × mh_H)} {k18 : mh_H → Nat → Nat → Int32 → Option (Int32 × mh_H)} (hk18 : ∀ (h : mh_H) (l1 : Nat) (l2 : Nat) (l3 : Int32), k18 h l1 l2 l3 = some z → mh_go P d mL_law 18 [some (.ref 1000000000), some (.ref l1), some (.ref l2), some (.int l3)] [] h (some (.int z.1)) z.2) {h : mh_H} {l1 : Nat} {l2 : Nat} {l3 : Int32} (hq : D_L_law_1053 N L xs k18 h l1 l2 l3 = some z) : mh_go P d mL_law 1053 [some (.ref 1000000000), some (.ref l1), some (.ref l2), some (.int l3)] [] h (some (.int z.1)) z.2 := by
  unfold D_L_law_1053 at hq
  refine st_aload_n (pc := 1053) dL_law_1053 rfl ?_
  refine st_aload_n (pc := 1054) dL_law_1054 rfl ?_
  refine st_iload_n (pc := 1055) dL_law_1055 rfl ?_
  refine st_iconst (pc := 1056) (v := (1 : Int32)) dL_law_1056 rfl ?_
  refine st_iadd (pc := 1057) dL_law_1057 ?_
  refine bd_sld (pc := 1058) hq dL_law_1058 hE (fun hq => ?_)
  refine st_aload_n (pc := 1059) dL_law_1059 rfl ?_
  refine st_iload_n (pc := 1060) dL_law_1060 rfl ?_
  refine st_iconst (pc := 1061) (v := (2 : Int32)) dL_law_1061 rfl ?_
  refine st_iadd (pc := 1062) dL_law_1062 ?_
  refine bd_sld (pc := 1063) hq dL_law_1063 hE (fun hq => ?_)
  refine st_aload_n (pc := 1064) dL_law_1064 rfl ?_
  refine st_iload_n (pc := 1065) dL_law_1065 rfl ?_
  refine st_iconst (pc := 1066) (v := (3 : Int32)) dL_law_1066 rfl ?_
  refine st_iadd (pc := 1067) dL_law_1067 ?_
  refine bd_sld (pc := 1068) hq dL_law_1068 hE (fun hq => ?_)
  obtain ⟨⟨hbq1, hkq1⟩, hq⟩ := mh_oi hq
  obtain ⟨q1, e1, hq⟩ := mh_ob hq
  refine st_invV (pc := 1069) (ci := 11) (vs := [.int (xs (l3 + (1 : Int32)).toNatClampNeg), .int (xs (l3 + (2 : Int32)).toNatClampNeg), .int (xs (l3 + (3 : Int32)).toNatClampNeg)]) (rest := []) (st2 := [.int q1.1]) dL_law_1069 okX11_seen (by decide) hkq1 hbq1 wd_831 wd_832 wd_833 pdX11_seen rfl rfl rfl rfl (Nat.le_trans (by decide) hd) (Nat.le_of_ble_eq_true rfl) (T_X11_seen (Nat.le_refl _) e1) rfl ?_
  refine st_aload_n (pc := 1072) dL_law_1072 rfl ?_
  refine st_aload_n (pc := 1073) dL_law_1073 rfl ?_
  refine st_iload_n (pc := 1074) dL_law_1074 rfl ?_
  refine st_iconst (pc := 1075) (v := (1 : Int32)) dL_law_1075 rfl ?_
  refine st_iadd (pc := 1076) dL_law_1076 ?_
  refine bd_sld (pc := 1077) hq dL_law_1077 hE (fun hq => ?_)
  refine st_aload_n (pc := 1078) dL_law_1078 rfl ?_
  refine st_iload_n (pc := 1079) dL_law_1079 rfl ?_
  refine st_iconst (pc := 1080) (v := (2 : Int32)) dL_law_1080 rfl ?_
  refine st_iadd (pc := 1081) dL_law_1081 ?_
  refine bd_sld (pc := 1082) hq dL_law_1082 hE (fun hq => ?_)
  refine st_aload_n (pc := 1083) dL_law_1083 rfl ?_
  refine st_iload_n (pc := 1084) dL_law_1084 rfl ?_
  refine st_iconst (pc := 1085) (v := (3 : Int32)) dL_law_1085 rfl ?_
  refine st_iadd (pc := 1086) dL_law_1086 ?_
  refine bd_sld (pc := 1087) hq dL_law_1087 hE (fun hq => ?_)
  obtain ⟨⟨hbq2, hkq2⟩, hq⟩ := mh_oi hq
  obtain ⟨q2, e2, hq⟩ := mh_ob hq
  refine st_invV (pc := 1088) (ci := 12) (vs := [.int (xs (l3 + (1 : Int32)).toNatClampNeg), .int (xs (l3 + (2 : Int32)).toNatClampNeg), .int (xs (l3 + (3 : Int32)).toNatClampNeg)]) (rest := [.int q1.1]) (st2 := [.int q2.1, .int q1.1]) dL_law_1088 okX12_seen (by decide) hkq2 hbq2 wd_1540 wd_1541 wd_1542 pdX12_seen rfl rfl rfl rfl (Nat.le_trans (by decide) hd) (Nat.le_of_ble_eq_true rfl) (T_X12_seen (Nat.le_refl _) e2) rfl ?_
  refine bd_icmp_eq (pc := 1091) (tgt := 1901) hq dL_law_1091 (by decide) (fun _ hq => ?_) (fun _ hq => ?_)
  ·
    exact T_L_law_1901 hd hE hk18 hq
  ·
    refine st_iconst (pc := 1094) (v := (0 : Int32)) dL_law_1094 rfl ?_
    exact bd_zret (pc := 1095) hq dL_law_1095 rfl
def D_L_law_1096 (N : Nat) (L : Nat) (xs : Nat → Int32) (k18 : mh_H → Nat → Nat → Int32 → Option (Int32 × mh_H)) (h : mh_H) (l1 : Nat) (l2 : Nat) (l3 : Int32) : Option (Int32 × mh_H) :=
  sI L (l3 + (1 : Int32)) <|
  sI L (l3 + (2 : Int32)) <|
  kO h 11 l1 <|
  (D_X11_bottle N h l1 (xs (l3 + (1 : Int32)).toNatClampNeg) (xs (l3 + (2 : Int32)).toNatClampNeg)).bind fun q1 =>
  sI L (l3 + (1 : Int32)) <|
  sI L (l3 + (2 : Int32)) <|
  kO q1.2 12 l2 <|
  (D_X12_bottle N q1.2 l2 (xs (l3 + (1 : Int32)).toNatClampNeg) (xs (l3 + (2 : Int32)).toNatClampNeg)).bind fun q2 =>
  if q1.1 = q2.1 then (D_L_law_1901 N L xs k18 q2.2 l1 l2 l3)
  else (zB (0 : Int32) q2.2)
set_option maxHeartbeats 4000000 in
set_option maxRecDepth 100000 in
theorem T_L_law_1096 {P : mh_E → Prop} {N d : Nat} (hd : 47 ≤ d) {L : Nat} {xs : Nat → Int32} (hE : ∀ E, P E → mh_L E = L ∧ mh_xs E = xs) {z : (Int32 × mh_H)} {k18 : mh_H → Nat → Nat → Int32 → Option (Int32 × mh_H)} (hk18 : ∀ (h : mh_H) (l1 : Nat) (l2 : Nat) (l3 : Int32), k18 h l1 l2 l3 = some z → mh_go P d mL_law 18 [some (.ref 1000000000), some (.ref l1), some (.ref l2), some (.int l3)] [] h (some (.int z.1)) z.2) {h : mh_H} {l1 : Nat} {l2 : Nat} {l3 : Int32} (hq : D_L_law_1096 N L xs k18 h l1 l2 l3 = some z) : mh_go P d mL_law 1096 [some (.ref 1000000000), some (.ref l1), some (.ref l2), some (.int l3)] [] h (some (.int z.1)) z.2 := by
  unfold D_L_law_1096 at hq
  refine st_aload_n (pc := 1096) dL_law_1096 rfl ?_
  refine st_aload_n (pc := 1097) dL_law_1097 rfl ?_
  refine st_iload_n (pc := 1098) dL_law_1098 rfl ?_
  refine st_iconst (pc := 1099) (v := (1 : Int32)) dL_law_1099 rfl ?_
  refine st_iadd (pc := 1100) dL_law_1100 ?_
  refine bd_sld (pc := 1101) hq dL_law_1101 hE (fun hq => ?_)
  refine st_aload_n (pc := 1102) dL_law_1102 rfl ?_
  refine st_iload_n (pc := 1103) dL_law_1103 rfl ?_
  refine st_iconst (pc := 1104) (v := (2 : Int32)) dL_law_1104 rfl ?_
  refine st_iadd (pc := 1105) dL_law_1105 ?_
  refine bd_sld (pc := 1106) hq dL_law_1106 hE (fun hq => ?_)
  obtain ⟨⟨hbq1, hkq1⟩, hq⟩ := mh_oi hq
  obtain ⟨q1, e1, hq⟩ := mh_ob hq
  refine st_invV (pc := 1107) (ci := 11) (vs := [.int (xs (l3 + (1 : Int32)).toNatClampNeg), .int (xs (l3 + (2 : Int32)).toNatClampNeg)]) (rest := []) (st2 := [.int q1.1]) dL_law_1107 okX11_bottle (by decide) hkq1 hbq1 wd_839 wd_840 wd_841 pdX11_bottle rfl rfl rfl rfl (Nat.le_trans (by decide) hd) (Nat.le_of_ble_eq_true rfl) (T_X11_bottle (Nat.le_refl _) e1) rfl ?_
  refine st_aload_n (pc := 1110) dL_law_1110 rfl ?_
  refine st_aload_n (pc := 1111) dL_law_1111 rfl ?_
  refine st_iload_n (pc := 1112) dL_law_1112 rfl ?_
  refine st_iconst (pc := 1113) (v := (1 : Int32)) dL_law_1113 rfl ?_
  refine st_iadd (pc := 1114) dL_law_1114 ?_
  refine bd_sld (pc := 1115) hq dL_law_1115 hE (fun hq => ?_)
  refine st_aload_n (pc := 1116) dL_law_1116 rfl ?_
  refine st_iload_n (pc := 1117) dL_law_1117 rfl ?_
  refine st_iconst (pc := 1118) (v := (2 : Int32)) dL_law_1118 rfl ?_
  refine st_iadd (pc := 1119) dL_law_1119 ?_
  refine bd_sld (pc := 1120) hq dL_law_1120 hE (fun hq => ?_)
  obtain ⟨⟨hbq2, hkq2⟩, hq⟩ := mh_oi hq
  obtain ⟨q2, e2, hq⟩ := mh_ob hq
  refine st_invV (pc := 1121) (ci := 12) (vs := [.int (xs (l3 + (1 : Int32)).toNatClampNeg), .int (xs (l3 + (2 : Int32)).toNatClampNeg)]) (rest := [.int q1.1]) (st2 := [.int q2.1, .int q1.1]) dL_law_1121 okX12_bottle (by decide) hkq2 hbq2 wd_1548 wd_1549 wd_1550 pdX12_bottle rfl rfl rfl rfl (Nat.le_trans (by decide) hd) (Nat.le_of_ble_eq_true rfl) (T_X12_bottle (Nat.le_refl _) e2) rfl ?_
  refine bd_icmp_eq (pc := 1124) (tgt := 1901) hq dL_law_1124 (by decide) (fun _ hq => ?_) (fun _ hq => ?_)
  ·
    exact T_L_law_1901 hd hE hk18 hq
  ·
    refine st_iconst (pc := 1127) (v := (0 : Int32)) dL_law_1127 rfl ?_
    exact bd_zret (pc := 1128) hq dL_law_1128 rfl
def D_L_law_1129 (N : Nat) (L : Nat) (xs : Nat → Int32) (k18 : mh_H → Nat → Nat → Int32 → Option (Int32 × mh_H)) (h : mh_H) (l1 : Nat) (l2 : Nat) (l3 : Int32) : Option (Int32 × mh_H) :=
  sI L (l3 + (1 : Int32)) <|
  sI L (l3 + (2 : Int32)) <|
  sI L (l3 + (3 : Int32)) <|
  kO h 11 l1 <|
  (D_X11_bag N h l1 (xs (l3 + (1 : Int32)).toNatClampNeg) (xs (l3 + (2 : Int32)).toNatClampNeg) (xs (l3 + (3 : Int32)).toNatClampNeg)).bind fun q1 =>
  sI L (l3 + (1 : Int32)) <|
  sI L (l3 + (2 : Int32)) <|
  sI L (l3 + (3 : Int32)) <|
  kO q1.2 12 l2 <|
  (D_X12_bag N q1.2 l2 (xs (l3 + (1 : Int32)).toNatClampNeg) (xs (l3 + (2 : Int32)).toNatClampNeg) (xs (l3 + (3 : Int32)).toNatClampNeg)).bind fun q2 =>
  if q1.1 = q2.1 then (D_L_law_1901 N L xs k18 q2.2 l1 l2 l3)
  else (zB (0 : Int32) q2.2)
set_option maxHeartbeats 4000000 in
set_option maxRecDepth 100000 in
theorem T_L_law_1129 {P : mh_E → Prop} {N d : Nat} (hd : 47 ≤ d) {L : Nat} {xs : Nat → Int32} (hE : ∀ E, P E → mh_L E = L ∧ mh_xs E = xs) {z : (Int32 × mh_H)} {k18 : mh_H → Nat → Nat → Int32 → Option (Int32 × mh_H)} (hk18 : ∀ (h : mh_H) (l1 : Nat) (l2 : Nat) (l3 : Int32), k18 h l1 l2 l3 = some z → mh_go P d mL_law 18 [some (.ref 1000000000), some (.ref l1), some (.ref l2), some (.int l3)] [] h (some (.int z.1)) z.2) {h : mh_H} {l1 : Nat} {l2 : Nat} {l3 : Int32} (hq : D_L_law_1129 N L xs k18 h l1 l2 l3 = some z) : mh_go P d mL_law 1129 [some (.ref 1000000000), some (.ref l1), some (.ref l2), some (.int l3)] [] h (some (.int z.1)) z.2 := by
  unfold D_L_law_1129 at hq
  refine st_aload_n (pc := 1129) dL_law_1129 rfl ?_
  refine st_aload_n (pc := 1130) dL_law_1130 rfl ?_
  refine st_iload_n (pc := 1131) dL_law_1131 rfl ?_
  refine st_iconst (pc := 1132) (v := (1 : Int32)) dL_law_1132 rfl ?_
  refine st_iadd (pc := 1133) dL_law_1133 ?_
  refine bd_sld (pc := 1134) hq dL_law_1134 hE (fun hq => ?_)
  refine st_aload_n (pc := 1135) dL_law_1135 rfl ?_
  refine st_iload_n (pc := 1136) dL_law_1136 rfl ?_
  refine st_iconst (pc := 1137) (v := (2 : Int32)) dL_law_1137 rfl ?_
  refine st_iadd (pc := 1138) dL_law_1138 ?_
  refine bd_sld (pc := 1139) hq dL_law_1139 hE (fun hq => ?_)
  refine st_aload_n (pc := 1140) dL_law_1140 rfl ?_
  refine st_iload_n (pc := 1141) dL_law_1141 rfl ?_
  refine st_iconst (pc := 1142) (v := (3 : Int32)) dL_law_1142 rfl ?_
  refine st_iadd (pc := 1143) dL_law_1143 ?_
  refine bd_sld (pc := 1144) hq dL_law_1144 hE (fun hq => ?_)
  obtain ⟨⟨hbq1, hkq1⟩, hq⟩ := mh_oi hq
  obtain ⟨q1, e1, hq⟩ := mh_ob hq
  refine st_invV (pc := 1145) (ci := 11) (vs := [.int (xs (l3 + (1 : Int32)).toNatClampNeg), .int (xs (l3 + (2 : Int32)).toNatClampNeg), .int (xs (l3 + (3 : Int32)).toNatClampNeg)]) (rest := []) (st2 := [.int q1.1]) dL_law_1145 okX11_bag (by decide) hkq1 hbq1 wd_863 wd_864 wd_865 pdX11_bag rfl rfl rfl rfl (Nat.le_trans (by decide) hd) (Nat.le_of_ble_eq_true rfl) (T_X11_bag (Nat.le_refl _) e1) rfl ?_
  refine st_aload_n (pc := 1148) dL_law_1148 rfl ?_
  refine st_aload_n (pc := 1149) dL_law_1149 rfl ?_
  refine st_iload_n (pc := 1150) dL_law_1150 rfl ?_
  refine st_iconst (pc := 1151) (v := (1 : Int32)) dL_law_1151 rfl ?_
  refine st_iadd (pc := 1152) dL_law_1152 ?_
  refine bd_sld (pc := 1153) hq dL_law_1153 hE (fun hq => ?_)
  refine st_aload_n (pc := 1154) dL_law_1154 rfl ?_
  refine st_iload_n (pc := 1155) dL_law_1155 rfl ?_
  refine st_iconst (pc := 1156) (v := (2 : Int32)) dL_law_1156 rfl ?_
  refine st_iadd (pc := 1157) dL_law_1157 ?_
  refine bd_sld (pc := 1158) hq dL_law_1158 hE (fun hq => ?_)
  refine st_aload_n (pc := 1159) dL_law_1159 rfl ?_
  refine st_iload_n (pc := 1160) dL_law_1160 rfl ?_
  refine st_iconst (pc := 1161) (v := (3 : Int32)) dL_law_1161 rfl ?_
  refine st_iadd (pc := 1162) dL_law_1162 ?_
  refine bd_sld (pc := 1163) hq dL_law_1163 hE (fun hq => ?_)
  obtain ⟨⟨hbq2, hkq2⟩, hq⟩ := mh_oi hq
  obtain ⟨q2, e2, hq⟩ := mh_ob hq
  refine st_invV (pc := 1164) (ci := 12) (vs := [.int (xs (l3 + (1 : Int32)).toNatClampNeg), .int (xs (l3 + (2 : Int32)).toNatClampNeg), .int (xs (l3 + (3 : Int32)).toNatClampNeg)]) (rest := [.int q1.1]) (st2 := [.int q2.1, .int q1.1]) dL_law_1164 okX12_bag (by decide) hkq2 hbq2 wd_1556 wd_1557 wd_1558 pdX12_bag rfl rfl rfl rfl (Nat.le_trans (by decide) hd) (Nat.le_of_ble_eq_true rfl) (T_X12_bag (Nat.le_refl _) e2) rfl ?_
  refine bd_icmp_eq (pc := 1167) (tgt := 1901) hq dL_law_1167 (by decide) (fun _ hq => ?_) (fun _ hq => ?_)
  ·
    exact T_L_law_1901 hd hE hk18 hq
  ·
    refine st_iconst (pc := 1170) (v := (0 : Int32)) dL_law_1170 rfl ?_
    exact bd_zret (pc := 1171) hq dL_law_1171 rfl
def D_L_law_1172 (N : Nat) (L : Nat) (xs : Nat → Int32) (k18 : mh_H → Nat → Nat → Int32 → Option (Int32 × mh_H)) (h : mh_H) (l1 : Nat) (l2 : Nat) (l3 : Int32) : Option (Int32 × mh_H) :=
  sI L (l3 + (1 : Int32)) <|
  sI L (l3 + (2 : Int32)) <|
  kO h 11 l1 <|
  (D_X11_lookIs N h l1 (xs (l3 + (1 : Int32)).toNatClampNeg) (xs (l3 + (2 : Int32)).toNatClampNeg)).bind fun q1 =>
  sI L (l3 + (1 : Int32)) <|
  sI L (l3 + (2 : Int32)) <|
  kO q1.2 12 l2 <|
  (D_X12_lookIs N q1.2 l2 (xs (l3 + (1 : Int32)).toNatClampNeg) (xs (l3 + (2 : Int32)).toNatClampNeg)).bind fun q2 =>
  if q1.1 = q2.1 then (D_L_law_1901 N L xs k18 q2.2 l1 l2 l3)
  else (zB (0 : Int32) q2.2)
set_option maxHeartbeats 4000000 in
set_option maxRecDepth 100000 in
theorem T_L_law_1172 {P : mh_E → Prop} {N d : Nat} (hd : 47 ≤ d) {L : Nat} {xs : Nat → Int32} (hE : ∀ E, P E → mh_L E = L ∧ mh_xs E = xs) {z : (Int32 × mh_H)} {k18 : mh_H → Nat → Nat → Int32 → Option (Int32 × mh_H)} (hk18 : ∀ (h : mh_H) (l1 : Nat) (l2 : Nat) (l3 : Int32), k18 h l1 l2 l3 = some z → mh_go P d mL_law 18 [some (.ref 1000000000), some (.ref l1), some (.ref l2), some (.int l3)] [] h (some (.int z.1)) z.2) {h : mh_H} {l1 : Nat} {l2 : Nat} {l3 : Int32} (hq : D_L_law_1172 N L xs k18 h l1 l2 l3 = some z) : mh_go P d mL_law 1172 [some (.ref 1000000000), some (.ref l1), some (.ref l2), some (.int l3)] [] h (some (.int z.1)) z.2 := by
  unfold D_L_law_1172 at hq
  refine st_aload_n (pc := 1172) dL_law_1172 rfl ?_
  refine st_aload_n (pc := 1173) dL_law_1173 rfl ?_
  refine st_iload_n (pc := 1174) dL_law_1174 rfl ?_
  refine st_iconst (pc := 1175) (v := (1 : Int32)) dL_law_1175 rfl ?_
  refine st_iadd (pc := 1176) dL_law_1176 ?_
  refine bd_sld (pc := 1177) hq dL_law_1177 hE (fun hq => ?_)
  refine st_aload_n (pc := 1178) dL_law_1178 rfl ?_
  refine st_iload_n (pc := 1179) dL_law_1179 rfl ?_
  refine st_iconst (pc := 1180) (v := (2 : Int32)) dL_law_1180 rfl ?_
  refine st_iadd (pc := 1181) dL_law_1181 ?_
  refine bd_sld (pc := 1182) hq dL_law_1182 hE (fun hq => ?_)
  obtain ⟨⟨hbq1, hkq1⟩, hq⟩ := mh_oi hq
  obtain ⟨q1, e1, hq⟩ := mh_ob hq
  refine st_invV (pc := 1183) (ci := 11) (vs := [.int (xs (l3 + (1 : Int32)).toNatClampNeg), .int (xs (l3 + (2 : Int32)).toNatClampNeg)]) (rest := []) (st2 := [.int q1.1]) dL_law_1183 okX11_lookIs (by decide) hkq1 hbq1 wd_867 wd_868 wd_869 pdX11_lookIs rfl rfl rfl rfl (Nat.le_trans (by decide) hd) (Nat.le_of_ble_eq_true rfl) (T_X11_lookIs (Nat.le_refl _) e1) rfl ?_
  refine st_aload_n (pc := 1186) dL_law_1186 rfl ?_
  refine st_aload_n (pc := 1187) dL_law_1187 rfl ?_
  refine st_iload_n (pc := 1188) dL_law_1188 rfl ?_
  refine st_iconst (pc := 1189) (v := (1 : Int32)) dL_law_1189 rfl ?_
  refine st_iadd (pc := 1190) dL_law_1190 ?_
  refine bd_sld (pc := 1191) hq dL_law_1191 hE (fun hq => ?_)
  refine st_aload_n (pc := 1192) dL_law_1192 rfl ?_
  refine st_iload_n (pc := 1193) dL_law_1193 rfl ?_
  refine st_iconst (pc := 1194) (v := (2 : Int32)) dL_law_1194 rfl ?_
  refine st_iadd (pc := 1195) dL_law_1195 ?_
  refine bd_sld (pc := 1196) hq dL_law_1196 hE (fun hq => ?_)
  obtain ⟨⟨hbq2, hkq2⟩, hq⟩ := mh_oi hq
  obtain ⟨q2, e2, hq⟩ := mh_ob hq
  refine st_invV (pc := 1197) (ci := 12) (vs := [.int (xs (l3 + (1 : Int32)).toNatClampNeg), .int (xs (l3 + (2 : Int32)).toNatClampNeg)]) (rest := [.int q1.1]) (st2 := [.int q2.1, .int q1.1]) dL_law_1197 okX12_lookIs (by decide) hkq2 hbq2 wd_1560 wd_1561 wd_1562 pdX12_lookIs rfl rfl rfl rfl (Nat.le_trans (by decide) hd) (Nat.le_of_ble_eq_true rfl) (T_X12_lookIs (Nat.le_refl _) e2) rfl ?_
  refine bd_icmp_eq (pc := 1200) (tgt := 1901) hq dL_law_1200 (by decide) (fun _ hq => ?_) (fun _ hq => ?_)
  ·
    exact T_L_law_1901 hd hE hk18 hq
  ·
    refine st_iconst (pc := 1203) (v := (0 : Int32)) dL_law_1203 rfl ?_
    exact bd_zret (pc := 1204) hq dL_law_1204 rfl
def D_L_law_1205 (N : Nat) (L : Nat) (xs : Nat → Int32) (k18 : mh_H → Nat → Nat → Int32 → Option (Int32 × mh_H)) (h : mh_H) (l1 : Nat) (l2 : Nat) (l3 : Int32) : Option (Int32 × mh_H) :=
  sI L (l3 + (1 : Int32)) <|
  sI L (l3 + (2 : Int32)) <|
  sI L (l3 + (3 : Int32)) <|
  kO h 11 l1 <|
  (D_X11_joined N h l1 (xs (l3 + (1 : Int32)).toNatClampNeg) (xs (l3 + (2 : Int32)).toNatClampNeg) (xs (l3 + (3 : Int32)).toNatClampNeg)).bind fun q1 =>
  sI L (l3 + (1 : Int32)) <|
  sI L (l3 + (2 : Int32)) <|
  sI L (l3 + (3 : Int32)) <|
  kO q1.2 12 l2 <|
  (D_X12_joined N q1.2 l2 (xs (l3 + (1 : Int32)).toNatClampNeg) (xs (l3 + (2 : Int32)).toNatClampNeg) (xs (l3 + (3 : Int32)).toNatClampNeg)).bind fun q2 =>
  if q1.1 = q2.1 then (D_L_law_1901 N L xs k18 q2.2 l1 l2 l3)
  else (zB (0 : Int32) q2.2)
set_option maxHeartbeats 4000000 in
set_option maxRecDepth 100000 in
theorem T_L_law_1205 {P : mh_E → Prop} {N d : Nat} (hd : 47 ≤ d) {L : Nat} {xs : Nat → Int32} (hE : ∀ E, P E → mh_L E = L ∧ mh_xs E = xs) {z : (Int32 × mh_H)} {k18 : mh_H → Nat → Nat → Int32 → Option (Int32 × mh_H)} (hk18 : ∀ (h : mh_H) (l1 : Nat) (l2 : Nat) (l3 : Int32), k18 h l1 l2 l3 = some z → mh_go P d mL_law 18 [some (.ref 1000000000), some (.ref l1), some (.ref l2), some (.int l3)] [] h (some (.int z.1)) z.2) {h : mh_H} {l1 : Nat} {l2 : Nat} {l3 : Int32} (hq : D_L_law_1205 N L xs k18 h l1 l2 l3 = some z) : mh_go P d mL_law 1205 [some (.ref 1000000000), some (.ref l1), some (.ref l2), some (.int l3)] [] h (some (.int z.1)) z.2 := by
  unfold D_L_law_1205 at hq
  refine st_aload_n (pc := 1205) dL_law_1205 rfl ?_
  refine st_aload_n (pc := 1206) dL_law_1206 rfl ?_
  refine st_iload_n (pc := 1207) dL_law_1207 rfl ?_
  refine st_iconst (pc := 1208) (v := (1 : Int32)) dL_law_1208 rfl ?_
  refine st_iadd (pc := 1209) dL_law_1209 ?_
  refine bd_sld (pc := 1210) hq dL_law_1210 hE (fun hq => ?_)
  refine st_aload_n (pc := 1211) dL_law_1211 rfl ?_
  refine st_iload_n (pc := 1212) dL_law_1212 rfl ?_
  refine st_iconst (pc := 1213) (v := (2 : Int32)) dL_law_1213 rfl ?_
  refine st_iadd (pc := 1214) dL_law_1214 ?_
  refine bd_sld (pc := 1215) hq dL_law_1215 hE (fun hq => ?_)
  refine st_aload_n (pc := 1216) dL_law_1216 rfl ?_
  refine st_iload_n (pc := 1217) dL_law_1217 rfl ?_
  refine st_iconst (pc := 1218) (v := (3 : Int32)) dL_law_1218 rfl ?_
  refine st_iadd (pc := 1219) dL_law_1219 ?_
  refine bd_sld (pc := 1220) hq dL_law_1220 hE (fun hq => ?_)
  obtain ⟨⟨hbq1, hkq1⟩, hq⟩ := mh_oi hq
  obtain ⟨q1, e1, hq⟩ := mh_ob hq
  refine st_invV (pc := 1221) (ci := 11) (vs := [.int (xs (l3 + (1 : Int32)).toNatClampNeg), .int (xs (l3 + (2 : Int32)).toNatClampNeg), .int (xs (l3 + (3 : Int32)).toNatClampNeg)]) (rest := []) (st2 := [.int q1.1]) dL_law_1221 okX11_joined (by decide) hkq1 hbq1 wd_871 wd_872 wd_873 pdX11_joined rfl rfl rfl rfl (Nat.le_trans (by decide) hd) (Nat.le_of_ble_eq_true rfl) (T_X11_joined (Nat.le_refl _) e1) rfl ?_
  refine st_aload_n (pc := 1224) dL_law_1224 rfl ?_
  refine st_aload_n (pc := 1225) dL_law_1225 rfl ?_
  refine st_iload_n (pc := 1226) dL_law_1226 rfl ?_
  refine st_iconst (pc := 1227) (v := (1 : Int32)) dL_law_1227 rfl ?_
  refine st_iadd (pc := 1228) dL_law_1228 ?_
  refine bd_sld (pc := 1229) hq dL_law_1229 hE (fun hq => ?_)
  refine st_aload_n (pc := 1230) dL_law_1230 rfl ?_
  refine st_iload_n (pc := 1231) dL_law_1231 rfl ?_
  refine st_iconst (pc := 1232) (v := (2 : Int32)) dL_law_1232 rfl ?_
  refine st_iadd (pc := 1233) dL_law_1233 ?_
  refine bd_sld (pc := 1234) hq dL_law_1234 hE (fun hq => ?_)
  refine st_aload_n (pc := 1235) dL_law_1235 rfl ?_
  refine st_iload_n (pc := 1236) dL_law_1236 rfl ?_
  refine st_iconst (pc := 1237) (v := (3 : Int32)) dL_law_1237 rfl ?_
  refine st_iadd (pc := 1238) dL_law_1238 ?_
  refine bd_sld (pc := 1239) hq dL_law_1239 hE (fun hq => ?_)
  obtain ⟨⟨hbq2, hkq2⟩, hq⟩ := mh_oi hq
  obtain ⟨q2, e2, hq⟩ := mh_ob hq
  refine st_invV (pc := 1240) (ci := 12) (vs := [.int (xs (l3 + (1 : Int32)).toNatClampNeg), .int (xs (l3 + (2 : Int32)).toNatClampNeg), .int (xs (l3 + (3 : Int32)).toNatClampNeg)]) (rest := [.int q1.1]) (st2 := [.int q2.1, .int q1.1]) dL_law_1240 okX12_joined (by decide) hkq2 hbq2 wd_1568 wd_1569 wd_1570 pdX12_joined rfl rfl rfl rfl (Nat.le_trans (by decide) hd) (Nat.le_of_ble_eq_true rfl) (T_X12_joined (Nat.le_refl _) e2) rfl ?_
  refine bd_icmp_eq (pc := 1243) (tgt := 1901) hq dL_law_1243 (by decide) (fun _ hq => ?_) (fun _ hq => ?_)
  ·
    exact T_L_law_1901 hd hE hk18 hq
  ·
    refine st_iconst (pc := 1246) (v := (0 : Int32)) dL_law_1246 rfl ?_
    exact bd_zret (pc := 1247) hq dL_law_1247 rfl
def D_L_law_1248 (N : Nat) (L : Nat) (xs : Nat → Int32) (k18 : mh_H → Nat → Nat → Int32 → Option (Int32 × mh_H)) (h : mh_H) (l1 : Nat) (l2 : Nat) (l3 : Int32) : Option (Int32 × mh_H) :=
  sI L (l3 + (1 : Int32)) <|
  sI L (l3 + (2 : Int32)) <|
  kO h 11 l1 <|
  (D_X11_never N h l1 (xs (l3 + (1 : Int32)).toNatClampNeg) (xs (l3 + (2 : Int32)).toNatClampNeg)).bind fun q1 =>
  sI L (l3 + (1 : Int32)) <|
  sI L (l3 + (2 : Int32)) <|
  kO q1.2 12 l2 <|
  (D_X12_never N q1.2 l2 (xs (l3 + (1 : Int32)).toNatClampNeg) (xs (l3 + (2 : Int32)).toNatClampNeg)).bind fun q2 =>
  if q1.1 = q2.1 then (D_L_law_1901 N L xs k18 q2.2 l1 l2 l3)
  else (zB (0 : Int32) q2.2)
set_option maxHeartbeats 4000000 in
set_option maxRecDepth 100000 in
theorem T_L_law_1248 {P : mh_E → Prop} {N d : Nat} (hd : 47 ≤ d) {L : Nat} {xs : Nat → Int32} (hE : ∀ E, P E → mh_L E = L ∧ mh_xs E = xs) {z : (Int32 × mh_H)} {k18 : mh_H → Nat → Nat → Int32 → Option (Int32 × mh_H)} (hk18 : ∀ (h : mh_H) (l1 : Nat) (l2 : Nat) (l3 : Int32), k18 h l1 l2 l3 = some z → mh_go P d mL_law 18 [some (.ref 1000000000), some (.ref l1), some (.ref l2), some (.int l3)] [] h (some (.int z.1)) z.2) {h : mh_H} {l1 : Nat} {l2 : Nat} {l3 : Int32} (hq : D_L_law_1248 N L xs k18 h l1 l2 l3 = some z) : mh_go P d mL_law 1248 [some (.ref 1000000000), some (.ref l1), some (.ref l2), some (.int l3)] [] h (some (.int z.1)) z.2 := by
  unfold D_L_law_1248 at hq
  refine st_aload_n (pc := 1248) dL_law_1248 rfl ?_
  refine st_aload_n (pc := 1249) dL_law_1249 rfl ?_
  refine st_iload_n (pc := 1250) dL_law_1250 rfl ?_
  refine st_iconst (pc := 1251) (v := (1 : Int32)) dL_law_1251 rfl ?_
  refine st_iadd (pc := 1252) dL_law_1252 ?_
  refine bd_sld (pc := 1253) hq dL_law_1253 hE (fun hq => ?_)
  refine st_aload_n (pc := 1254) dL_law_1254 rfl ?_
  refine st_iload_n (pc := 1255) dL_law_1255 rfl ?_
  refine st_iconst (pc := 1256) (v := (2 : Int32)) dL_law_1256 rfl ?_
  refine st_iadd (pc := 1257) dL_law_1257 ?_
  refine bd_sld (pc := 1258) hq dL_law_1258 hE (fun hq => ?_)
  obtain ⟨⟨hbq1, hkq1⟩, hq⟩ := mh_oi hq
  obtain ⟨q1, e1, hq⟩ := mh_ob hq
  refine st_invV (pc := 1259) (ci := 11) (vs := [.int (xs (l3 + (1 : Int32)).toNatClampNeg), .int (xs (l3 + (2 : Int32)).toNatClampNeg)]) (rest := []) (st2 := [.int q1.1]) dL_law_1259 okX11_never (by decide) hkq1 hbq1 wd_897 wd_898 wd_899 pdX11_never rfl rfl rfl rfl (Nat.le_trans (by decide) hd) (Nat.le_of_ble_eq_true rfl) (T_X11_never (Nat.le_refl _) e1) rfl ?_
  refine st_aload_n (pc := 1262) dL_law_1262 rfl ?_
  refine st_aload_n (pc := 1263) dL_law_1263 rfl ?_
  refine st_iload_n (pc := 1264) dL_law_1264 rfl ?_
  refine st_iconst (pc := 1265) (v := (1 : Int32)) dL_law_1265 rfl ?_
  refine st_iadd (pc := 1266) dL_law_1266 ?_
  refine bd_sld (pc := 1267) hq dL_law_1267 hE (fun hq => ?_)
  refine st_aload_n (pc := 1268) dL_law_1268 rfl ?_
  refine st_iload_n (pc := 1269) dL_law_1269 rfl ?_
  refine st_iconst (pc := 1270) (v := (2 : Int32)) dL_law_1270 rfl ?_
  refine st_iadd (pc := 1271) dL_law_1271 ?_
  refine bd_sld (pc := 1272) hq dL_law_1272 hE (fun hq => ?_)
  obtain ⟨⟨hbq2, hkq2⟩, hq⟩ := mh_oi hq
  obtain ⟨q2, e2, hq⟩ := mh_ob hq
  refine st_invV (pc := 1273) (ci := 12) (vs := [.int (xs (l3 + (1 : Int32)).toNatClampNeg), .int (xs (l3 + (2 : Int32)).toNatClampNeg)]) (rest := [.int q1.1]) (st2 := [.int q2.1, .int q1.1]) dL_law_1273 okX12_never (by decide) hkq2 hbq2 wd_1585 wd_1586 wd_1587 pdX12_never rfl rfl rfl rfl (Nat.le_trans (by decide) hd) (Nat.le_of_ble_eq_true rfl) (T_X12_never (Nat.le_refl _) e2) rfl ?_
  refine bd_icmp_eq (pc := 1276) (tgt := 1901) hq dL_law_1276 (by decide) (fun _ hq => ?_) (fun _ hq => ?_)
  ·
    exact T_L_law_1901 hd hE hk18 hq
  ·
    refine st_iconst (pc := 1279) (v := (0 : Int32)) dL_law_1279 rfl ?_
    exact bd_zret (pc := 1280) hq dL_law_1280 rfl
def D_L_law_1281 (N : Nat) (L : Nat) (xs : Nat → Int32) (k18 : mh_H → Nat → Nat → Int32 → Option (Int32 × mh_H)) (h : mh_H) (l1 : Nat) (l2 : Nat) (l3 : Int32) : Option (Int32 × mh_H) :=
  sI L (l3 + (1 : Int32)) <|
  sI L (l3 + (2 : Int32)) <|
  sI L (l3 + (3 : Int32)) <|
  sI L (l3 + (4 : Int32)) <|
  kO h 11 l1 <|
  (D_X11_span N h l1 (xs (l3 + (1 : Int32)).toNatClampNeg) (xs (l3 + (2 : Int32)).toNatClampNeg) (xs (l3 + (3 : Int32)).toNatClampNeg) (xs (l3 + (4 : Int32)).toNatClampNeg)).bind fun q1 =>
  sI L (l3 + (1 : Int32)) <|
  sI L (l3 + (2 : Int32)) <|
  sI L (l3 + (3 : Int32)) <|
  sI L (l3 + (4 : Int32)) <|
  kO q1.2 12 l2 <|
  (D_X12_span N q1.2 l2 (xs (l3 + (1 : Int32)).toNatClampNeg) (xs (l3 + (2 : Int32)).toNatClampNeg) (xs (l3 + (3 : Int32)).toNatClampNeg) (xs (l3 + (4 : Int32)).toNatClampNeg)).bind fun q2 =>
  if q1.1 = q2.1 then (D_L_law_1901 N L xs k18 q2.2 l1 l2 l3)
  else (zB (0 : Int32) q2.2)
set_option maxHeartbeats 4000000 in
set_option maxRecDepth 100000 in
theorem T_L_law_1281 {P : mh_E → Prop} {N d : Nat} (hd : 47 ≤ d) {L : Nat} {xs : Nat → Int32} (hE : ∀ E, P E → mh_L E = L ∧ mh_xs E = xs) {z : (Int32 × mh_H)} {k18 : mh_H → Nat → Nat → Int32 → Option (Int32 × mh_H)} (hk18 : ∀ (h : mh_H) (l1 : Nat) (l2 : Nat) (l3 : Int32), k18 h l1 l2 l3 = some z → mh_go P d mL_law 18 [some (.ref 1000000000), some (.ref l1), some (.ref l2), some (.int l3)] [] h (some (.int z.1)) z.2) {h : mh_H} {l1 : Nat} {l2 : Nat} {l3 : Int32} (hq : D_L_law_1281 N L xs k18 h l1 l2 l3 = some z) : mh_go P d mL_law 1281 [some (.ref 1000000000), some (.ref l1), some (.ref l2), some (.int l3)] [] h (some (.int z.1)) z.2 := by
  unfold D_L_law_1281 at hq
  refine st_aload_n (pc := 1281) dL_law_1281 rfl ?_
  refine st_aload_n (pc := 1282) dL_law_1282 rfl ?_
  refine st_iload_n (pc := 1283) dL_law_1283 rfl ?_
  refine st_iconst (pc := 1284) (v := (1 : Int32)) dL_law_1284 rfl ?_
  refine st_iadd (pc := 1285) dL_law_1285 ?_
  refine bd_sld (pc := 1286) hq dL_law_1286 hE (fun hq => ?_)
  refine st_aload_n (pc := 1287) dL_law_1287 rfl ?_
  refine st_iload_n (pc := 1288) dL_law_1288 rfl ?_
  refine st_iconst (pc := 1289) (v := (2 : Int32)) dL_law_1289 rfl ?_
  refine st_iadd (pc := 1290) dL_law_1290 ?_
  refine bd_sld (pc := 1291) hq dL_law_1291 hE (fun hq => ?_)
  refine st_aload_n (pc := 1292) dL_law_1292 rfl ?_
  refine st_iload_n (pc := 1293) dL_law_1293 rfl ?_
  refine st_iconst (pc := 1294) (v := (3 : Int32)) dL_law_1294 rfl ?_
  refine st_iadd (pc := 1295) dL_law_1295 ?_
  refine bd_sld (pc := 1296) hq dL_law_1296 hE (fun hq => ?_)
  refine st_aload_n (pc := 1297) dL_law_1297 rfl ?_
  refine st_iload_n (pc := 1298) dL_law_1298 rfl ?_
  refine st_iconst (pc := 1299) (v := (4 : Int32)) dL_law_1299 rfl ?_
  refine st_iadd (pc := 1300) dL_law_1300 ?_
  refine bd_sld (pc := 1301) hq dL_law_1301 hE (fun hq => ?_)
  obtain ⟨⟨hbq1, hkq1⟩, hq⟩ := mh_oi hq
  obtain ⟨q1, e1, hq⟩ := mh_ob hq
  refine st_invV (pc := 1302) (ci := 11) (vs := [.int (xs (l3 + (1 : Int32)).toNatClampNeg), .int (xs (l3 + (2 : Int32)).toNatClampNeg), .int (xs (l3 + (3 : Int32)).toNatClampNeg), .int (xs (l3 + (4 : Int32)).toNatClampNeg)]) (rest := []) (st2 := [.int q1.1]) dL_law_1302 okX11_span (by decide) hkq1 hbq1 wd_905 wd_906 wd_907 pdX11_span rfl rfl rfl rfl (Nat.le_trans (by decide) hd) (Nat.le_of_ble_eq_true rfl) (T_X11_span (Nat.le_refl _) e1) rfl ?_
  refine st_aload_n (pc := 1305) dL_law_1305 rfl ?_
  refine st_aload_n (pc := 1306) dL_law_1306 rfl ?_
  refine st_iload_n (pc := 1307) dL_law_1307 rfl ?_
  refine st_iconst (pc := 1308) (v := (1 : Int32)) dL_law_1308 rfl ?_
  refine st_iadd (pc := 1309) dL_law_1309 ?_
  refine bd_sld (pc := 1310) hq dL_law_1310 hE (fun hq => ?_)
  refine st_aload_n (pc := 1311) dL_law_1311 rfl ?_
  refine st_iload_n (pc := 1312) dL_law_1312 rfl ?_
  refine st_iconst (pc := 1313) (v := (2 : Int32)) dL_law_1313 rfl ?_
  refine st_iadd (pc := 1314) dL_law_1314 ?_
  refine bd_sld (pc := 1315) hq dL_law_1315 hE (fun hq => ?_)
  refine st_aload_n (pc := 1316) dL_law_1316 rfl ?_
  refine st_iload_n (pc := 1317) dL_law_1317 rfl ?_
  refine st_iconst (pc := 1318) (v := (3 : Int32)) dL_law_1318 rfl ?_
  refine st_iadd (pc := 1319) dL_law_1319 ?_
  refine bd_sld (pc := 1320) hq dL_law_1320 hE (fun hq => ?_)
  refine st_aload_n (pc := 1321) dL_law_1321 rfl ?_
  refine st_iload_n (pc := 1322) dL_law_1322 rfl ?_
  refine st_iconst (pc := 1323) (v := (4 : Int32)) dL_law_1323 rfl ?_
  refine st_iadd (pc := 1324) dL_law_1324 ?_
  refine bd_sld (pc := 1325) hq dL_law_1325 hE (fun hq => ?_)
  obtain ⟨⟨hbq2, hkq2⟩, hq⟩ := mh_oi hq
  obtain ⟨q2, e2, hq⟩ := mh_ob hq
  refine st_invV (pc := 1326) (ci := 12) (vs := [.int (xs (l3 + (1 : Int32)).toNatClampNeg), .int (xs (l3 + (2 : Int32)).toNatClampNeg), .int (xs (l3 + (3 : Int32)).toNatClampNeg), .int (xs (l3 + (4 : Int32)).toNatClampNeg)]) (rest := [.int q1.1]) (st2 := [.int q2.1, .int q1.1]) dL_law_1326 okX12_span (by decide) hkq2 hbq2 wd_1589 wd_1590 wd_1591 pdX12_span rfl rfl rfl rfl (Nat.le_trans (by decide) hd) (Nat.le_of_ble_eq_true rfl) (T_X12_span (Nat.le_refl _) e2) rfl ?_
  refine bd_icmp_eq (pc := 1329) (tgt := 1901) hq dL_law_1329 (by decide) (fun _ hq => ?_) (fun _ hq => ?_)
  ·
    exact T_L_law_1901 hd hE hk18 hq
  ·
    refine st_iconst (pc := 1332) (v := (0 : Int32)) dL_law_1332 rfl ?_
    exact bd_zret (pc := 1333) hq dL_law_1333 rfl
def D_L_law_1334 (N : Nat) (L : Nat) (xs : Nat → Int32) (k18 : mh_H → Nat → Nat → Int32 → Option (Int32 × mh_H)) (h : mh_H) (l1 : Nat) (l2 : Nat) (l3 : Int32) : Option (Int32 × mh_H) :=
  sI L (l3 + (1 : Int32)) <|
  sI L (l3 + (2 : Int32)) <|
  kO h 11 l1 <|
  (D_X11_musts N h l1 (xs (l3 + (1 : Int32)).toNatClampNeg) (xs (l3 + (2 : Int32)).toNatClampNeg)).bind fun q1 =>
  sI L (l3 + (1 : Int32)) <|
  sI L (l3 + (2 : Int32)) <|
  kO q1.2 12 l2 <|
  (D_X12_musts N q1.2 l2 (xs (l3 + (1 : Int32)).toNatClampNeg) (xs (l3 + (2 : Int32)).toNatClampNeg)).bind fun q2 =>
  if q1.1 = q2.1 then (D_L_law_1901 N L xs k18 q2.2 l1 l2 l3)
  else (zB (0 : Int32) q2.2)
set_option maxHeartbeats 4000000 in
set_option maxRecDepth 100000 in
theorem T_L_law_1334 {P : mh_E → Prop} {N d : Nat} (hd : 47 ≤ d) {L : Nat} {xs : Nat → Int32} (hE : ∀ E, P E → mh_L E = L ∧ mh_xs E = xs) {z : (Int32 × mh_H)} {k18 : mh_H → Nat → Nat → Int32 → Option (Int32 × mh_H)} (hk18 : ∀ (h : mh_H) (l1 : Nat) (l2 : Nat) (l3 : Int32), k18 h l1 l2 l3 = some z → mh_go P d mL_law 18 [some (.ref 1000000000), some (.ref l1), some (.ref l2), some (.int l3)] [] h (some (.int z.1)) z.2) {h : mh_H} {l1 : Nat} {l2 : Nat} {l3 : Int32} (hq : D_L_law_1334 N L xs k18 h l1 l2 l3 = some z) : mh_go P d mL_law 1334 [some (.ref 1000000000), some (.ref l1), some (.ref l2), some (.int l3)] [] h (some (.int z.1)) z.2 := by
  unfold D_L_law_1334 at hq
  refine st_aload_n (pc := 1334) dL_law_1334 rfl ?_
  refine st_aload_n (pc := 1335) dL_law_1335 rfl ?_
  refine st_iload_n (pc := 1336) dL_law_1336 rfl ?_
  refine st_iconst (pc := 1337) (v := (1 : Int32)) dL_law_1337 rfl ?_
  refine st_iadd (pc := 1338) dL_law_1338 ?_
  refine bd_sld (pc := 1339) hq dL_law_1339 hE (fun hq => ?_)
  refine st_aload_n (pc := 1340) dL_law_1340 rfl ?_
  refine st_iload_n (pc := 1341) dL_law_1341 rfl ?_
  refine st_iconst (pc := 1342) (v := (2 : Int32)) dL_law_1342 rfl ?_
  refine st_iadd (pc := 1343) dL_law_1343 ?_
  refine bd_sld (pc := 1344) hq dL_law_1344 hE (fun hq => ?_)
  obtain ⟨⟨hbq1, hkq1⟩, hq⟩ := mh_oi hq
  obtain ⟨q1, e1, hq⟩ := mh_ob hq
  refine st_invV (pc := 1345) (ci := 11) (vs := [.int (xs (l3 + (1 : Int32)).toNatClampNeg), .int (xs (l3 + (2 : Int32)).toNatClampNeg)]) (rest := []) (st2 := [.int q1.1]) dL_law_1345 okX11_musts (by decide) hkq1 hbq1 wd_923 wd_924 wd_925 pdX11_musts rfl rfl rfl rfl (Nat.le_trans (by decide) hd) (Nat.le_of_ble_eq_true rfl) (T_X11_musts (Nat.le_refl _) e1) rfl ?_
  refine st_aload_n (pc := 1348) dL_law_1348 rfl ?_
  refine st_aload_n (pc := 1349) dL_law_1349 rfl ?_
  refine st_iload_n (pc := 1350) dL_law_1350 rfl ?_
  refine st_iconst (pc := 1351) (v := (1 : Int32)) dL_law_1351 rfl ?_
  refine st_iadd (pc := 1352) dL_law_1352 ?_
  refine bd_sld (pc := 1353) hq dL_law_1353 hE (fun hq => ?_)
  refine st_aload_n (pc := 1354) dL_law_1354 rfl ?_
  refine st_iload_n (pc := 1355) dL_law_1355 rfl ?_
  refine st_iconst (pc := 1356) (v := (2 : Int32)) dL_law_1356 rfl ?_
  refine st_iadd (pc := 1357) dL_law_1357 ?_
  refine bd_sld (pc := 1358) hq dL_law_1358 hE (fun hq => ?_)
  obtain ⟨⟨hbq2, hkq2⟩, hq⟩ := mh_oi hq
  obtain ⟨q2, e2, hq⟩ := mh_ob hq
  refine st_invV (pc := 1359) (ci := 12) (vs := [.int (xs (l3 + (1 : Int32)).toNatClampNeg), .int (xs (l3 + (2 : Int32)).toNatClampNeg)]) (rest := [.int q1.1]) (st2 := [.int q2.1, .int q1.1]) dL_law_1359 okX12_musts (by decide) hkq2 hbq2 wd_1593 wd_1594 wd_1595 pdX12_musts rfl rfl rfl rfl (Nat.le_trans (by decide) hd) (Nat.le_of_ble_eq_true rfl) (T_X12_musts (Nat.le_refl _) e2) rfl ?_
  refine bd_icmp_eq (pc := 1362) (tgt := 1901) hq dL_law_1362 (by decide) (fun _ hq => ?_) (fun _ hq => ?_)
  ·
    exact T_L_law_1901 hd hE hk18 hq
  ·
    refine st_iconst (pc := 1365) (v := (0 : Int32)) dL_law_1365 rfl ?_
    exact bd_zret (pc := 1366) hq dL_law_1366 rfl
def D_L_law_1367 (N : Nat) (L : Nat) (xs : Nat → Int32) (k18 : mh_H → Nat → Nat → Int32 → Option (Int32 × mh_H)) (h : mh_H) (l1 : Nat) (l2 : Nat) (l3 : Int32) : Option (Int32 × mh_H) :=
  sI L (l3 + (1 : Int32)) <|
  sI L (l3 + (2 : Int32)) <|
  sI L (l3 + (3 : Int32)) <|
  sI L (l3 + (4 : Int32)) <|
  kO h 11 l1 <|
  (D_X11_crosses N h l1 (xs (l3 + (1 : Int32)).toNatClampNeg) (xs (l3 + (2 : Int32)).toNatClampNeg) (xs (l3 + (3 : Int32)).toNatClampNeg) (xs (l3 + (4 : Int32)).toNatClampNeg)).bind fun q1 =>
  sI L (l3 + (1 : Int32)) <|
  sI L (l3 + (2 : Int32)) <|
  sI L (l3 + (3 : Int32)) <|
  sI L (l3 + (4 : Int32)) <|
  kO q1.2 12 l2 <|
  (D_X12_crosses N q1.2 l2 (xs (l3 + (1 : Int32)).toNatClampNeg) (xs (l3 + (2 : Int32)).toNatClampNeg) (xs (l3 + (3 : Int32)).toNatClampNeg) (xs (l3 + (4 : Int32)).toNatClampNeg)).bind fun q2 =>
  if q1.1 = q2.1 then (D_L_law_1901 N L xs k18 q2.2 l1 l2 l3)
  else (zB (0 : Int32) q2.2)
set_option maxHeartbeats 4000000 in
set_option maxRecDepth 100000 in
theorem T_L_law_1367 {P : mh_E → Prop} {N d : Nat} (hd : 47 ≤ d) {L : Nat} {xs : Nat → Int32} (hE : ∀ E, P E → mh_L E = L ∧ mh_xs E = xs) {z : (Int32 × mh_H)} {k18 : mh_H → Nat → Nat → Int32 → Option (Int32 × mh_H)} (hk18 : ∀ (h : mh_H) (l1 : Nat) (l2 : Nat) (l3 : Int32), k18 h l1 l2 l3 = some z → mh_go P d mL_law 18 [some (.ref 1000000000), some (.ref l1), some (.ref l2), some (.int l3)] [] h (some (.int z.1)) z.2) {h : mh_H} {l1 : Nat} {l2 : Nat} {l3 : Int32} (hq : D_L_law_1367 N L xs k18 h l1 l2 l3 = some z) : mh_go P d mL_law 1367 [some (.ref 1000000000), some (.ref l1), some (.ref l2), some (.int l3)] [] h (some (.int z.1)) z.2 := by
  unfold D_L_law_1367 at hq
  refine st_aload_n (pc := 1367) dL_law_1367 rfl ?_
  refine st_aload_n (pc := 1368) dL_law_1368 rfl ?_
  refine st_iload_n (pc := 1369) dL_law_1369 rfl ?_
  refine st_iconst (pc := 1370) (v := (1 : Int32)) dL_law_1370 rfl ?_
  refine st_iadd (pc := 1371) dL_law_1371 ?_
  refine bd_sld (pc := 1372) hq dL_law_1372 hE (fun hq => ?_)
  refine st_aload_n (pc := 1373) dL_law_1373 rfl ?_
  refine st_iload_n (pc := 1374) dL_law_1374 rfl ?_
  refine st_iconst (pc := 1375) (v := (2 : Int32)) dL_law_1375 rfl ?_
  refine st_iadd (pc := 1376) dL_law_1376 ?_
  refine bd_sld (pc := 1377) hq dL_law_1377 hE (fun hq => ?_)
  refine st_aload_n (pc := 1378) dL_law_1378 rfl ?_
  refine st_iload_n (pc := 1379) dL_law_1379 rfl ?_
  refine st_iconst (pc := 1380) (v := (3 : Int32)) dL_law_1380 rfl ?_
  refine st_iadd (pc := 1381) dL_law_1381 ?_
  refine bd_sld (pc := 1382) hq dL_law_1382 hE (fun hq => ?_)
  refine st_aload_n (pc := 1383) dL_law_1383 rfl ?_
  refine st_iload_n (pc := 1384) dL_law_1384 rfl ?_
  refine st_iconst (pc := 1385) (v := (4 : Int32)) dL_law_1385 rfl ?_
  refine st_iadd (pc := 1386) dL_law_1386 ?_
  refine bd_sld (pc := 1387) hq dL_law_1387 hE (fun hq => ?_)
  obtain ⟨⟨hbq1, hkq1⟩, hq⟩ := mh_oi hq
  obtain ⟨q1, e1, hq⟩ := mh_ob hq
  refine st_invV (pc := 1388) (ci := 11) (vs := [.int (xs (l3 + (1 : Int32)).toNatClampNeg), .int (xs (l3 + (2 : Int32)).toNatClampNeg), .int (xs (l3 + (3 : Int32)).toNatClampNeg), .int (xs (l3 + (4 : Int32)).toNatClampNeg)]) (rest := []) (st2 := [.int q1.1]) dL_law_1388 okX11_crosses (by decide) hkq1 hbq1 wd_931 wd_932 wd_933 pdX11_crosses rfl rfl rfl rfl (Nat.le_trans (by decide) hd) (Nat.le_of_ble_eq_true rfl) (T_X11_crosses (Nat.le_refl _) e1) rfl ?_
  refine st_aload_n (pc := 1391) dL_law_1391 rfl ?_
  refine st_aload_n (pc := 1392) dL_law_1392 rfl ?_
  refine st_iload_n (pc := 1393) dL_law_1393 rfl ?_
  refine st_iconst (pc := 1394) (v := (1 : Int32)) dL_law_1394 rfl ?_
  refine st_iadd (pc := 1395) dL_law_1395 ?_
  refine bd_sld (pc := 1396) hq dL_law_1396 hE (fun hq => ?_)
  refine st_aload_n (pc := 1397) dL_law_1397 rfl ?_
  refine st_iload_n (pc := 1398) dL_law_1398 rfl ?_
  refine st_iconst (pc := 1399) (v := (2 : Int32)) dL_law_1399 rfl ?_
  refine st_iadd (pc := 1400) dL_law_1400 ?_
  refine bd_sld (pc := 1401) hq dL_law_1401 hE (fun hq => ?_)
  refine st_aload_n (pc := 1402) dL_law_1402 rfl ?_
  refine st_iload_n (pc := 1403) dL_law_1403 rfl ?_
  refine st_iconst (pc := 1404) (v := (3 : Int32)) dL_law_1404 rfl ?_
  refine st_iadd (pc := 1405) dL_law_1405 ?_
  refine bd_sld (pc := 1406) hq dL_law_1406 hE (fun hq => ?_)
  refine st_aload_n (pc := 1407) dL_law_1407 rfl ?_
  refine st_iload_n (pc := 1408) dL_law_1408 rfl ?_
  refine st_iconst (pc := 1409) (v := (4 : Int32)) dL_law_1409 rfl ?_
  refine st_iadd (pc := 1410) dL_law_1410 ?_
  refine bd_sld (pc := 1411) hq dL_law_1411 hE (fun hq => ?_)
  obtain ⟨⟨hbq2, hkq2⟩, hq⟩ := mh_oi hq
  obtain ⟨q2, e2, hq⟩ := mh_ob hq
  refine st_invV (pc := 1412) (ci := 12) (vs := [.int (xs (l3 + (1 : Int32)).toNatClampNeg), .int (xs (l3 + (2 : Int32)).toNatClampNeg), .int (xs (l3 + (3 : Int32)).toNatClampNeg), .int (xs (l3 + (4 : Int32)).toNatClampNeg)]) (rest := [.int q1.1]) (st2 := [.int q2.1, .int q1.1]) dL_law_1412 okX12_crosses (by decide) hkq2 hbq2 wd_1597 wd_1598 wd_1599 pdX12_crosses rfl rfl rfl rfl (Nat.le_trans (by decide) hd) (Nat.le_of_ble_eq_true rfl) (T_X12_crosses (Nat.le_refl _) e2) rfl ?_
  refine bd_icmp_eq (pc := 1415) (tgt := 1901) hq dL_law_1415 (by decide) (fun _ hq => ?_) (fun _ hq => ?_)
  ·
    exact T_L_law_1901 hd hE hk18 hq
  ·
    refine st_iconst (pc := 1418) (v := (0 : Int32)) dL_law_1418 rfl ?_
    exact bd_zret (pc := 1419) hq dL_law_1419 rfl
def D_L_law_1420 (N : Nat) (L : Nat) (xs : Nat → Int32) (k18 : mh_H → Nat → Nat → Int32 → Option (Int32 × mh_H)) (h : mh_H) (l1 : Nat) (l2 : Nat) (l3 : Int32) : Option (Int32 × mh_H) :=
  sI L (l3 + (1 : Int32)) <|
  sI L (l3 + (2 : Int32)) <|
  kO h 11 l1 <|
  (D_X11_rooms N h l1 (xs (l3 + (1 : Int32)).toNatClampNeg) (xs (l3 + (2 : Int32)).toNatClampNeg)).bind fun q1 =>
  sI L (l3 + (1 : Int32)) <|
  sI L (l3 + (2 : Int32)) <|
  kO q1.2 12 l2 <|
  (D_X12_rooms N q1.2 l2 (xs (l3 + (1 : Int32)).toNatClampNeg) (xs (l3 + (2 : Int32)).toNatClampNeg)).bind fun q2 =>
  if q1.1 = q2.1 then (D_L_law_1901 N L xs k18 q2.2 l1 l2 l3)
  else (zB (0 : Int32) q2.2)
set_option maxHeartbeats 4000000 in
set_option maxRecDepth 100000 in
theorem T_L_law_1420 {P : mh_E → Prop} {N d : Nat} (hd : 47 ≤ d) {L : Nat} {xs : Nat → Int32} (hE : ∀ E, P E → mh_L E = L ∧ mh_xs E = xs) {z : (Int32 × mh_H)} {k18 : mh_H → Nat → Nat → Int32 → Option (Int32 × mh_H)} (hk18 : ∀ (h : mh_H) (l1 : Nat) (l2 : Nat) (l3 : Int32), k18 h l1 l2 l3 = some z → mh_go P d mL_law 18 [some (.ref 1000000000), some (.ref l1), some (.ref l2), some (.int l3)] [] h (some (.int z.1)) z.2) {h : mh_H} {l1 : Nat} {l2 : Nat} {l3 : Int32} (hq : D_L_law_1420 N L xs k18 h l1 l2 l3 = some z) : mh_go P d mL_law 1420 [some (.ref 1000000000), some (.ref l1), some (.ref l2), some (.int l3)] [] h (some (.int z.1)) z.2 := by
  unfold D_L_law_1420 at hq
  refine st_aload_n (pc := 1420) dL_law_1420 rfl ?_
  refine st_aload_n (pc := 1421) dL_law_1421 rfl ?_
  refine st_iload_n (pc := 1422) dL_law_1422 rfl ?_
  refine st_iconst (pc := 1423) (v := (1 : Int32)) dL_law_1423 rfl ?_
  refine st_iadd (pc := 1424) dL_law_1424 ?_
  refine bd_sld (pc := 1425) hq dL_law_1425 hE (fun hq => ?_)
  refine st_aload_n (pc := 1426) dL_law_1426 rfl ?_
  refine st_iload_n (pc := 1427) dL_law_1427 rfl ?_
  refine st_iconst (pc := 1428) (v := (2 : Int32)) dL_law_1428 rfl ?_
  refine st_iadd (pc := 1429) dL_law_1429 ?_
  refine bd_sld (pc := 1430) hq dL_law_1430 hE (fun hq => ?_)
  obtain ⟨⟨hbq1, hkq1⟩, hq⟩ := mh_oi hq
  obtain ⟨q1, e1, hq⟩ := mh_ob hq
  refine st_invV (pc := 1431) (ci := 11) (vs := [.int (xs (l3 + (1 : Int32)).toNatClampNeg), .int (xs (l3 + (2 : Int32)).toNatClampNeg)]) (rest := []) (st2 := [.int q1.1]) dL_law_1431 okX11_rooms (by decide) hkq1 hbq1 wd_943 wd_944 wd_945 pdX11_rooms rfl rfl rfl rfl (Nat.le_trans (by decide) hd) (Nat.le_of_ble_eq_true rfl) (T_X11_rooms (Nat.le_refl _) e1) rfl ?_
  refine st_aload_n (pc := 1434) dL_law_1434 rfl ?_
  refine st_aload_n (pc := 1435) dL_law_1435 rfl ?_
  refine st_iload_n (pc := 1436) dL_law_1436 rfl ?_
  refine st_iconst (pc := 1437) (v := (1 : Int32)) dL_law_1437 rfl ?_
  refine st_iadd (pc := 1438) dL_law_1438 ?_
  refine bd_sld (pc := 1439) hq dL_law_1439 hE (fun hq => ?_)
  refine st_aload_n (pc := 1440) dL_law_1440 rfl ?_
  refine st_iload_n (pc := 1441) dL_law_1441 rfl ?_
  refine st_iconst (pc := 1442) (v := (2 : Int32)) dL_law_1442 rfl ?_
  refine st_iadd (pc := 1443) dL_law_1443 ?_
  refine bd_sld (pc := 1444) hq dL_law_1444 hE (fun hq => ?_)
  obtain ⟨⟨hbq2, hkq2⟩, hq⟩ := mh_oi hq
  obtain ⟨q2, e2, hq⟩ := mh_ob hq
  refine st_invV (pc := 1445) (ci := 12) (vs := [.int (xs (l3 + (1 : Int32)).toNatClampNeg), .int (xs (l3 + (2 : Int32)).toNatClampNeg)]) (rest := [.int q1.1]) (st2 := [.int q2.1, .int q1.1]) dL_law_1445 okX12_rooms (by decide) hkq2 hbq2 wd_1605 wd_1606 wd_1607 pdX12_rooms rfl rfl rfl rfl (Nat.le_trans (by decide) hd) (Nat.le_of_ble_eq_true rfl) (T_X12_rooms (Nat.le_refl _) e2) rfl ?_
  refine bd_icmp_eq (pc := 1448) (tgt := 1901) hq dL_law_1448 (by decide) (fun _ hq => ?_) (fun _ hq => ?_)
  ·
    exact T_L_law_1901 hd hE hk18 hq
  ·
    refine st_iconst (pc := 1451) (v := (0 : Int32)) dL_law_1451 rfl ?_
    exact bd_zret (pc := 1452) hq dL_law_1452 rfl
def D_L_law_1494 (N : Nat) (L : Nat) (xs : Nat → Int32) (k18 : mh_H → Nat → Nat → Int32 → Option (Int32 × mh_H)) (h : mh_H) (l1 : Nat) (l2 : Nat) (l3 : Int32) (s0 : Int32) (s1 : Nat) (s2 : Int32) (s3 : Int32) : Option (Int32 × mh_H) :=
  kO h 12 s1 <|
  (D_X12_town N h s1 s2 s3).bind fun q1 =>
  if s0 = q1.1 then (D_L_law_1901 N L xs k18 q1.2 l1 l2 l3)
  else (zB (0 : Int32) q1.2)
set_option maxHeartbeats 4000000 in
set_option maxRecDepth 100000 in
theorem T_L_law_1494 {P : mh_E → Prop} {N d : Nat} (hd : 47 ≤ d) {L : Nat} {xs : Nat → Int32} (hE : ∀ E, P E → mh_L E = L ∧ mh_xs E = xs) {z : (Int32 × mh_H)} {k18 : mh_H → Nat → Nat → Int32 → Option (Int32 × mh_H)} (hk18 : ∀ (h : mh_H) (l1 : Nat) (l2 : Nat) (l3 : Int32), k18 h l1 l2 l3 = some z → mh_go P d mL_law 18 [some (.ref 1000000000), some (.ref l1), some (.ref l2), some (.int l3)] [] h (some (.int z.1)) z.2) {h : mh_H} {l1 : Nat} {l2 : Nat} {l3 : Int32} {s0 : Int32} {s1 : Nat} {s2 : Int32} {s3 : Int32} (hq : D_L_law_1494 N L xs k18 h l1 l2 l3 s0 s1 s2 s3 = some z) : mh_go P d mL_law 1494 [some (.ref 1000000000), some (.ref l1), some (.ref l2), some (.int l3)] [.int s3, .int s2, .ref s1, .int s0] h (some (.int z.1)) z.2 := by
  unfold D_L_law_1494 at hq
  obtain ⟨⟨hbq1, hkq1⟩, hq⟩ := mh_oi hq
  obtain ⟨q1, e1, hq⟩ := mh_ob hq
  refine st_invV (pc := 1494) (ci := 12) (vs := [.int s2, .int s3]) (rest := [.int s0]) (st2 := [.int q1.1, .int s0]) dL_law_1494 okX12_town (by decide) hkq1 hbq1 wd_1624 wd_1625 wd_1626 pdX12_town rfl rfl rfl rfl (Nat.le_trans (by decide) hd) (Nat.le_of_ble_eq_true rfl) (T_X12_town (Nat.le_refl _) e1) rfl ?_
  refine bd_icmp_eq (pc := 1497) (tgt := 1901) hq dL_law_1497 (by decide) (fun _ hq => ?_) (fun _ hq => ?_)
  ·
    exact T_L_law_1901 hd hE hk18 hq
  ·
    refine st_iconst (pc := 1500) (v := (0 : Int32)) dL_law_1500 rfl ?_
    exact bd_zret (pc := 1501) hq dL_law_1501 rfl
def D_L_law_1472 (N : Nat) (L : Nat) (xs : Nat → Int32) (k18 : mh_H → Nat → Nat → Int32 → Option (Int32 × mh_H)) (h : mh_H) (l1 : Nat) (l2 : Nat) (l3 : Int32) (s0 : Nat) (s1 : Int32) (s2 : Int32) : Option (Int32 × mh_H) :=
  kO h 11 s0 <|
  (D_X11_town N h s0 s1 s2).bind fun q1 =>
  sI L (l3 + (1 : Int32)) <|
  sI L (l3 + (2 : Int32)) <|
  if (xs (l3 + (2 : Int32)).toNatClampNeg) = 0 then (D_L_law_1494 N L xs k18 q1.2 l1 l2 l3 q1.1 l2 (xs (l3 + (1 : Int32)).toNatClampNeg) (0 : Int32))
  else (D_L_law_1494 N L xs k18 q1.2 l1 l2 l3 q1.1 l2 (xs (l3 + (1 : Int32)).toNatClampNeg) (1 : Int32))
set_option maxHeartbeats 4000000 in
set_option maxRecDepth 100000 in
theorem T_L_law_1472 {P : mh_E → Prop} {N d : Nat} (hd : 47 ≤ d) {L : Nat} {xs : Nat → Int32} (hE : ∀ E, P E → mh_L E = L ∧ mh_xs E = xs) {z : (Int32 × mh_H)} {k18 : mh_H → Nat → Nat → Int32 → Option (Int32 × mh_H)} (hk18 : ∀ (h : mh_H) (l1 : Nat) (l2 : Nat) (l3 : Int32), k18 h l1 l2 l3 = some z → mh_go P d mL_law 18 [some (.ref 1000000000), some (.ref l1), some (.ref l2), some (.int l3)] [] h (some (.int z.1)) z.2) {h : mh_H} {l1 : Nat} {l2 : Nat} {l3 : Int32} {s0 : Nat} {s1 : Int32} {s2 : Int32} (hq : D_L_law_1472 N L xs k18 h l1 l2 l3 s0 s1 s2 = some z) : mh_go P d mL_law 1472 [some (.ref 1000000000), some (.ref l1), some (.ref l2), some (.int l3)] [.int s2, .int s1, .ref s0] h (some (.int z.1)) z.2 := by
  unfold D_L_law_1472 at hq
  obtain ⟨⟨hbq1, hkq1⟩, hq⟩ := mh_oi hq
  obtain ⟨q1, e1, hq⟩ := mh_ob hq
  refine st_invV (pc := 1472) (ci := 11) (vs := [.int s1, .int s2]) (rest := []) (st2 := [.int q1.1]) dL_law_1472 okX11_town (by decide) hkq1 hbq1 wd_972 wd_973 wd_974 pdX11_town rfl rfl rfl rfl (Nat.le_trans (by decide) hd) (Nat.le_of_ble_eq_true rfl) (T_X11_town (Nat.le_refl _) e1) rfl ?_
  refine st_aload_n (pc := 1475) dL_law_1475 rfl ?_
  refine st_aload_n (pc := 1476) dL_law_1476 rfl ?_
  refine st_iload_n (pc := 1477) dL_law_1477 rfl ?_
  refine st_iconst (pc := 1478) (v := (1 : Int32)) dL_law_1478 rfl ?_
  refine st_iadd (pc := 1479) dL_law_1479 ?_
  refine bd_sld (pc := 1480) hq dL_law_1480 hE (fun hq => ?_)
  refine st_aload_n (pc := 1481) dL_law_1481 rfl ?_
  refine st_iload_n (pc := 1482) dL_law_1482 rfl ?_
  refine st_iconst (pc := 1483) (v := (2 : Int32)) dL_law_1483 rfl ?_
  refine st_iadd (pc := 1484) dL_law_1484 ?_
  refine bd_sld (pc := 1485) hq dL_law_1485 hE (fun hq => ?_)
  refine bd_if_eq (pc := 1486) (tgt := 1493) hq dL_law_1486 (by decide) (fun _ hq => ?_) (fun _ hq => ?_)
  ·
    refine st_iconst (pc := 1493) (v := (0 : Int32)) dL_law_1493 rfl ?_
    exact T_L_law_1494 hd hE hk18 hq
  ·
    refine st_iconst (pc := 1489) (v := (1 : Int32)) dL_law_1489 rfl ?_
    refine st_goto (pc := 1490) (tgt := 1494) dL_law_1490 (by decide) ?_
    exact T_L_law_1494 hd hE hk18 hq
def D_L_law_1453 (N : Nat) (L : Nat) (xs : Nat → Int32) (k18 : mh_H → Nat → Nat → Int32 → Option (Int32 × mh_H)) (h : mh_H) (l1 : Nat) (l2 : Nat) (l3 : Int32) : Option (Int32 × mh_H) :=
  sI L (l3 + (1 : Int32)) <|
  sI L (l3 + (2 : Int32)) <|
  if (xs (l3 + (2 : Int32)).toNatClampNeg) = 0 then (D_L_law_1472 N L xs k18 h l1 l2 l3 l1 (xs (l3 + (1 : Int32)).toNatClampNeg) (0 : Int32))
  else (D_L_law_1472 N L xs k18 h l1 l2 l3 l1 (xs (l3 + (1 : Int32)).toNatClampNeg) (1 : Int32))
set_option maxHeartbeats 4000000 in
set_option maxRecDepth 100000 in
theorem T_L_law_1453 {P : mh_E → Prop} {N d : Nat} (hd : 47 ≤ d) {L : Nat} {xs : Nat → Int32} (hE : ∀ E, P E → mh_L E = L ∧ mh_xs E = xs) {z : (Int32 × mh_H)} {k18 : mh_H → Nat → Nat → Int32 → Option (Int32 × mh_H)} (hk18 : ∀ (h : mh_H) (l1 : Nat) (l2 : Nat) (l3 : Int32), k18 h l1 l2 l3 = some z → mh_go P d mL_law 18 [some (.ref 1000000000), some (.ref l1), some (.ref l2), some (.int l3)] [] h (some (.int z.1)) z.2) {h : mh_H} {l1 : Nat} {l2 : Nat} {l3 : Int32} (hq : D_L_law_1453 N L xs k18 h l1 l2 l3 = some z) : mh_go P d mL_law 1453 [some (.ref 1000000000), some (.ref l1), some (.ref l2), some (.int l3)] [] h (some (.int z.1)) z.2 := by
  unfold D_L_law_1453 at hq
  refine st_aload_n (pc := 1453) dL_law_1453 rfl ?_
  refine st_aload_n (pc := 1454) dL_law_1454 rfl ?_
  refine st_iload_n (pc := 1455) dL_law_1455 rfl ?_
  refine st_iconst (pc := 1456) (v := (1 : Int32)) dL_law_1456 rfl ?_
  refine st_iadd (pc := 1457) dL_law_1457 ?_
  refine bd_sld (pc := 1458) hq dL_law_1458 hE (fun hq => ?_)
  refine st_aload_n (pc := 1459) dL_law_1459 rfl ?_
  refine st_iload_n (pc := 1460) dL_law_1460 rfl ?_
  refine st_iconst (pc := 1461) (v := (2 : Int32)) dL_law_1461 rfl ?_
  refine st_iadd (pc := 1462) dL_law_1462 ?_
  refine bd_sld (pc := 1463) hq dL_law_1463 hE (fun hq => ?_)
  refine bd_if_eq (pc := 1464) (tgt := 1471) hq dL_law_1464 (by decide) (fun _ hq => ?_) (fun _ hq => ?_)
  ·
    refine st_iconst (pc := 1471) (v := (0 : Int32)) dL_law_1471 rfl ?_
    exact T_L_law_1472 hd hE hk18 hq
  ·
    refine st_iconst (pc := 1467) (v := (1 : Int32)) dL_law_1467 rfl ?_
    refine st_goto (pc := 1468) (tgt := 1472) dL_law_1468 (by decide) ?_
    exact T_L_law_1472 hd hE hk18 hq
def D_L_law_1502 (N : Nat) (L : Nat) (xs : Nat → Int32) (k18 : mh_H → Nat → Nat → Int32 → Option (Int32 × mh_H)) (h : mh_H) (l1 : Nat) (l2 : Nat) (l3 : Int32) : Option (Int32 × mh_H) :=
  sI L (l3 + (1 : Int32)) <|
  sI L (l3 + (2 : Int32)) <|
  sI L (l3 + (3 : Int32)) <|
  kO h 11 l1 <|
  (D_X11_night N h l1 (xs (l3 + (1 : Int32)).toNatClampNeg) (xs (l3 + (2 : Int32)).toNatClampNeg) (xs (l3 + (3 : Int32)).toNatClampNeg)).bind fun q1 =>
  sI L (l3 + (1 : Int32)) <|
  sI L (l3 + (2 : Int32)) <|
  sI L (l3 + (3 : Int32)) <|
  kO q1.2 12 l2 <|
  (D_X12_night N q1.2 l2 (xs (l3 + (1 : Int32)).toNatClampNeg) (xs (l3 + (2 : Int32)).toNatClampNeg) (xs (l3 + (3 : Int32)).toNatClampNeg)).bind fun q2 =>
  if q1.1 = q2.1 then (D_L_law_1901 N L xs k18 q2.2 l1 l2 l3)
  else (zB (0 : Int32) q2.2)
set_option maxHeartbeats 4000000 in
set_option maxRecDepth 100000 in
theorem T_L_law_1502 {P : mh_E → Prop} {N d : Nat} (hd : 47 ≤ d) {L : Nat} {xs : Nat → Int32} (hE : ∀ E, P E → mh_L E = L ∧ mh_xs E = xs) {z : (Int32 × mh_H)} {k18 : mh_H → Nat → Nat → Int32 → Option (Int32 × mh_H)} (hk18 : ∀ (h : mh_H) (l1 : Nat) (l2 : Nat) (l3 : Int32), k18 h l1 l2 l3 = some z → mh_go P d mL_law 18 [some (.ref 1000000000), some (.ref l1), some (.ref l2), some (.int l3)] [] h (some (.int z.1)) z.2) {h : mh_H} {l1 : Nat} {l2 : Nat} {l3 : Int32} (hq : D_L_law_1502 N L xs k18 h l1 l2 l3 = some z) : mh_go P d mL_law 1502 [some (.ref 1000000000), some (.ref l1), some (.ref l2), some (.int l3)] [] h (some (.int z.1)) z.2 := by
  unfold D_L_law_1502 at hq
  refine st_aload_n (pc := 1502) dL_law_1502 rfl ?_
  refine st_aload_n (pc := 1503) dL_law_1503 rfl ?_
  refine st_iload_n (pc := 1504) dL_law_1504 rfl ?_
  refine st_iconst (pc := 1505) (v := (1 : Int32)) dL_law_1505 rfl ?_
  refine st_iadd (pc := 1506) dL_law_1506 ?_
  refine bd_sld (pc := 1507) hq dL_law_1507 hE (fun hq => ?_)
  refine st_aload_n (pc := 1508) dL_law_1508 rfl ?_
  refine st_iload_n (pc := 1509) dL_law_1509 rfl ?_
  refine st_iconst (pc := 1510) (v := (2 : Int32)) dL_law_1510 rfl ?_
  refine st_iadd (pc := 1511) dL_law_1511 ?_
  refine bd_sld (pc := 1512) hq dL_law_1512 hE (fun hq => ?_)
  refine st_aload_n (pc := 1513) dL_law_1513 rfl ?_
  refine st_iload_n (pc := 1514) dL_law_1514 rfl ?_
  refine st_iconst (pc := 1515) (v := (3 : Int32)) dL_law_1515 rfl ?_
  refine st_iadd (pc := 1516) dL_law_1516 ?_
  refine bd_sld (pc := 1517) hq dL_law_1517 hE (fun hq => ?_)
  obtain ⟨⟨hbq1, hkq1⟩, hq⟩ := mh_oi hq
  obtain ⟨q1, e1, hq⟩ := mh_ob hq
  refine st_invV (pc := 1518) (ci := 11) (vs := [.int (xs (l3 + (1 : Int32)).toNatClampNeg), .int (xs (l3 + (2 : Int32)).toNatClampNeg), .int (xs (l3 + (3 : Int32)).toNatClampNeg)]) (rest := []) (st2 := [.int q1.1]) dL_law_1518 okX11_night (by decide) hkq1 hbq1 wd_976 wd_977 wd_978 pdX11_night rfl rfl rfl rfl (Nat.le_trans (by decide) hd) (Nat.le_of_ble_eq_true rfl) (T_X11_night (Nat.le_refl _) e1) rfl ?_
  refine st_aload_n (pc := 1521) dL_law_1521 rfl ?_
  refine st_aload_n (pc := 1522) dL_law_1522 rfl ?_
  refine st_iload_n (pc := 1523) dL_law_1523 rfl ?_
  refine st_iconst (pc := 1524) (v := (1 : Int32)) dL_law_1524 rfl ?_
  refine st_iadd (pc := 1525) dL_law_1525 ?_
  refine bd_sld (pc := 1526) hq dL_law_1526 hE (fun hq => ?_)
  refine st_aload_n (pc := 1527) dL_law_1527 rfl ?_
  refine st_iload_n (pc := 1528) dL_law_1528 rfl ?_
  refine st_iconst (pc := 1529) (v := (2 : Int32)) dL_law_1529 rfl ?_
  refine st_iadd (pc := 1530) dL_law_1530 ?_
  refine bd_sld (pc := 1531) hq dL_law_1531 hE (fun hq => ?_)
  refine st_aload_n (pc := 1532) dL_law_1532 rfl ?_
  refine st_iload_n (pc := 1533) dL_law_1533 rfl ?_
  refine st_iconst (pc := 1534) (v := (3 : Int32)) dL_law_1534 rfl ?_
  refine st_iadd (pc := 1535) dL_law_1535 ?_
  refine bd_sld (pc := 1536) hq dL_law_1536 hE (fun hq => ?_)
  obtain ⟨⟨hbq2, hkq2⟩, hq⟩ := mh_oi hq
  obtain ⟨q2, e2, hq⟩ := mh_ob hq
  refine st_invV (pc := 1537) (ci := 12) (vs := [.int (xs (l3 + (1 : Int32)).toNatClampNeg), .int (xs (l3 + (2 : Int32)).toNatClampNeg), .int (xs (l3 + (3 : Int32)).toNatClampNeg)]) (rest := [.int q1.1]) (st2 := [.int q2.1, .int q1.1]) dL_law_1537 okX12_night (by decide) hkq2 hbq2 wd_1628 wd_1629 wd_1630 pdX12_night rfl rfl rfl rfl (Nat.le_trans (by decide) hd) (Nat.le_of_ble_eq_true rfl) (T_X12_night (Nat.le_refl _) e2) rfl ?_
  refine bd_icmp_eq (pc := 1540) (tgt := 1901) hq dL_law_1540 (by decide) (fun _ hq => ?_) (fun _ hq => ?_)
  ·
    exact T_L_law_1901 hd hE hk18 hq
  ·
    refine st_iconst (pc := 1543) (v := (0 : Int32)) dL_law_1543 rfl ?_
    exact bd_zret (pc := 1544) hq dL_law_1544 rfl
def D_L_law_1545 (N : Nat) (L : Nat) (xs : Nat → Int32) (k18 : mh_H → Nat → Nat → Int32 → Option (Int32 × mh_H)) (h : mh_H) (l1 : Nat) (l2 : Nat) (l3 : Int32) : Option (Int32 × mh_H) :=
  sI L (l3 + (1 : Int32)) <|
  kO h 11 l1 <|
  (D_X11_share N h l1 (xs (l3 + (1 : Int32)).toNatClampNeg)).bind fun q1 =>
  sI L (l3 + (1 : Int32)) <|
  kO q1.2 12 l2 <|
  (D_X12_share N q1.2 l2 (xs (l3 + (1 : Int32)).toNatClampNeg)).bind fun q2 =>
  if q1.1 = q2.1 then (D_L_law_1901 N L xs k18 q2.2 l1 l2 l3)
  else (zB (0 : Int32) q2.2)
set_option maxHeartbeats 4000000 in
set_option maxRecDepth 100000 in
theorem T_L_law_1545 {P : mh_E → Prop} {N d : Nat} (hd : 47 ≤ d) {L : Nat} {xs : Nat → Int32} (hE : ∀ E, P E → mh_L E = L ∧ mh_xs E = xs) {z : (Int32 × mh_H)} {k18 : mh_H → Nat → Nat → Int32 → Option (Int32 × mh_H)} (hk18 : ∀ (h : mh_H) (l1 : Nat) (l2 : Nat) (l3 : Int32), k18 h l1 l2 l3 = some z → mh_go P d mL_law 18 [some (.ref 1000000000), some (.ref l1), some (.ref l2), some (.int l3)] [] h (some (.int z.1)) z.2) {h : mh_H} {l1 : Nat} {l2 : Nat} {l3 : Int32} (hq : D_L_law_1545 N L xs k18 h l1 l2 l3 = some z) : mh_go P d mL_law 1545 [some (.ref 1000000000), some (.ref l1), some (.ref l2), some (.int l3)] [] h (some (.int z.1)) z.2 := by
  unfold D_L_law_1545 at hq
  refine st_aload_n (pc := 1545) dL_law_1545 rfl ?_
  refine st_aload_n (pc := 1546) dL_law_1546 rfl ?_
  refine st_iload_n (pc := 1547) dL_law_1547 rfl ?_
  refine st_iconst (pc := 1548) (v := (1 : Int32)) dL_law_1548 rfl ?_
  refine st_iadd (pc := 1549) dL_law_1549 ?_
  refine bd_sld (pc := 1550) hq dL_law_1550 hE (fun hq => ?_)
  obtain ⟨⟨hbq1, hkq1⟩, hq⟩ := mh_oi hq
  obtain ⟨q1, e1, hq⟩ := mh_ob hq
  refine st_invV (pc := 1551) (ci := 11) (vs := [.int (xs (l3 + (1 : Int32)).toNatClampNeg)]) (rest := []) (st2 := [.int q1.1]) dL_law_1551 okX11_share (by decide) hkq1 hbq1 wd_996 wd_997 wd_998 pdX11_share rfl rfl rfl rfl (Nat.le_trans (by decide) hd) (Nat.le_of_ble_eq_true rfl) (T_X11_share (Nat.le_refl _) e1) rfl ?_
  refine st_aload_n (pc := 1554) dL_law_1554 rfl ?_
  refine st_aload_n (pc := 1555) dL_law_1555 rfl ?_
  refine st_iload_n (pc := 1556) dL_law_1556 rfl ?_
  refine st_iconst (pc := 1557) (v := (1 : Int32)) dL_law_1557 rfl ?_
  refine st_iadd (pc := 1558) dL_law_1558 ?_
  refine bd_sld (pc := 1559) hq dL_law_1559 hE (fun hq => ?_)
  obtain ⟨⟨hbq2, hkq2⟩, hq⟩ := mh_oi hq
  obtain ⟨q2, e2, hq⟩ := mh_ob hq
  refine st_invV (pc := 1560) (ci := 12) (vs := [.int (xs (l3 + (1 : Int32)).toNatClampNeg)]) (rest := [.int q1.1]) (st2 := [.int q2.1, .int q1.1]) dL_law_1560 okX12_share (by decide) hkq2 hbq2 wd_1637 wd_1638 wd_1639 pdX12_share rfl rfl rfl rfl (Nat.le_trans (by decide) hd) (Nat.le_of_ble_eq_true rfl) (T_X12_share (Nat.le_refl _) e2) rfl ?_
  refine bd_icmp_eq (pc := 1563) (tgt := 1901) hq dL_law_1563 (by decide) (fun _ hq => ?_) (fun _ hq => ?_)
  ·
    exact T_L_law_1901 hd hE hk18 hq
  ·
    refine st_iconst (pc := 1566) (v := (0 : Int32)) dL_law_1566 rfl ?_
    exact bd_zret (pc := 1567) hq dL_law_1567 rfl
def D_L_law_1568 (N : Nat) (L : Nat) (xs : Nat → Int32) (k18 : mh_H → Nat → Nat → Int32 → Option (Int32 × mh_H)) (h : mh_H) (l1 : Nat) (l2 : Nat) (l3 : Int32) : Option (Int32 × mh_H) :=
  sI L (l3 + (1 : Int32)) <|
  sI L (l3 + (2 : Int32)) <|
  sI L (l3 + (3 : Int32)) <|
  kO h 11 l1 <|
  (D_X11_voice N h l1 (xs (l3 + (1 : Int32)).toNatClampNeg) (xs (l3 + (2 : Int32)).toNatClampNeg) (xs (l3 + (3 : Int32)).toNatClampNeg)).bind fun q1 =>
  sI L (l3 + (1 : Int32)) <|
  sI L (l3 + (2 : Int32)) <|
  sI L (l3 + (3 : Int32)) <|
  kO q1.2 12 l2 <|
  (D_X12_voice N q1.2 l2 (xs (l3 + (1 : Int32)).toNatClampNeg) (xs (l3 + (2 : Int32)).toNatClampNeg) (xs (l3 + (3 : Int32)).toNatClampNeg)).bind fun q2 =>
  if q1.1 = q2.1 then (D_L_law_1901 N L xs k18 q2.2 l1 l2 l3)
  else (zB (0 : Int32) q2.2)
set_option maxHeartbeats 4000000 in
set_option maxRecDepth 100000 in
theorem T_L_law_1568 {P : mh_E → Prop} {N d : Nat} (hd : 47 ≤ d) {L : Nat} {xs : Nat → Int32} (hE : ∀ E, P E → mh_L E = L ∧ mh_xs E = xs) {z : (Int32 × mh_H)} {k18 : mh_H → Nat → Nat → Int32 → Option (Int32 × mh_H)} (hk18 : ∀ (h : mh_H) (l1 : Nat) (l2 : Nat) (l3 : Int32), k18 h l1 l2 l3 = some z → mh_go P d mL_law 18 [some (.ref 1000000000), some (.ref l1), some (.ref l2), some (.int l3)] [] h (some (.int z.1)) z.2) {h : mh_H} {l1 : Nat} {l2 : Nat} {l3 : Int32} (hq : D_L_law_1568 N L xs k18 h l1 l2 l3 = some z) : mh_go P d mL_law 1568 [some (.ref 1000000000), some (.ref l1), some (.ref l2), some (.int l3)] [] h (some (.int z.1)) z.2 := by
  unfold D_L_law_1568 at hq
  refine st_aload_n (pc := 1568) dL_law_1568 rfl ?_
  refine st_aload_n (pc := 1569) dL_law_1569 rfl ?_
  refine st_iload_n (pc := 1570) dL_law_1570 rfl ?_
  refine st_iconst (pc := 1571) (v := (1 : Int32)) dL_law_1571 rfl ?_
  refine st_iadd (pc := 1572) dL_law_1572 ?_
  refine bd_sld (pc := 1573) hq dL_law_1573 hE (fun hq => ?_)
  refine st_aload_n (pc := 1574) dL_law_1574 rfl ?_
  refine st_iload_n (pc := 1575) dL_law_1575 rfl ?_
  refine st_iconst (pc := 1576) (v := (2 : Int32)) dL_law_1576 rfl ?_
  refine st_iadd (pc := 1577) dL_law_1577 ?_
  refine bd_sld (pc := 1578) hq dL_law_1578 hE (fun hq => ?_)
  refine st_aload_n (pc := 1579) dL_law_1579 rfl ?_
  refine st_iload_n (pc := 1580) dL_law_1580 rfl ?_
  refine st_iconst (pc := 1581) (v := (3 : Int32)) dL_law_1581 rfl ?_
  refine st_iadd (pc := 1582) dL_law_1582 ?_
  refine bd_sld (pc := 1583) hq dL_law_1583 hE (fun hq => ?_)
  obtain ⟨⟨hbq1, hkq1⟩, hq⟩ := mh_oi hq
  obtain ⟨q1, e1, hq⟩ := mh_ob hq
  refine st_invV (pc := 1584) (ci := 11) (vs := [.int (xs (l3 + (1 : Int32)).toNatClampNeg), .int (xs (l3 + (2 : Int32)).toNatClampNeg), .int (xs (l3 + (3 : Int32)).toNatClampNeg)]) (rest := []) (st2 := [.int q1.1]) dL_law_1584 okX11_voice (by decide) hkq1 hbq1 wd_1012 wd_1013 wd_1014 pdX11_voice rfl rfl rfl rfl (Nat.le_trans (by decide) hd) (Nat.le_of_ble_eq_true rfl) (T_X11_voice (Nat.le_refl _) e1) rfl ?_
  refine st_aload_n (pc := 1587) dL_law_1587 rfl ?_
  refine st_aload_n (pc := 1588) dL_law_1588 rfl ?_
  refine st_iload_n (pc := 1589) dL_law_1589 rfl ?_
  refine st_iconst (pc := 1590) (v := (1 : Int32)) dL_law_1590 rfl ?_
  refine st_iadd (pc := 1591) dL_law_1591 ?_
  refine bd_sld (pc := 1592) hq dL_law_1592 hE (fun hq => ?_)
  refine st_aload_n (pc := 1593) dL_law_1593 rfl ?_
  refine st_iload_n (pc := 1594) dL_law_1594 rfl ?_
  refine st_iconst (pc := 1595) (v := (2 : Int32)) dL_law_1595 rfl ?_
  refine st_iadd (pc := 1596) dL_law_1596 ?_
  refine bd_sld (pc := 1597) hq dL_law_1597 hE (fun hq => ?_)
  refine st_aload_n (pc := 1598) dL_law_1598 rfl ?_
  refine st_iload_n (pc := 1599) dL_law_1599 rfl ?_
  refine st_iconst (pc := 1600) (v := (3 : Int32)) dL_law_1600 rfl ?_
  refine st_iadd (pc := 1601) dL_law_1601 ?_
  refine bd_sld (pc := 1602) hq dL_law_1602 hE (fun hq => ?_)
  obtain ⟨⟨hbq2, hkq2⟩, hq⟩ := mh_oi hq
  obtain ⟨q2, e2, hq⟩ := mh_ob hq
  refine st_invV (pc := 1603) (ci := 12) (vs := [.int (xs (l3 + (1 : Int32)).toNatClampNeg), .int (xs (l3 + (2 : Int32)).toNatClampNeg), .int (xs (l3 + (3 : Int32)).toNatClampNeg)]) (rest := [.int q1.1]) (st2 := [.int q2.1, .int q1.1]) dL_law_1603 okX12_voice (by decide) hkq2 hbq2 wd_1641 wd_1642 wd_1643 pdX12_voice rfl rfl rfl rfl (Nat.le_trans (by decide) hd) (Nat.le_of_ble_eq_true rfl) (T_X12_voice (Nat.le_refl _) e2) rfl ?_
  refine bd_icmp_eq (pc := 1606) (tgt := 1901) hq dL_law_1606 (by decide) (fun _ hq => ?_) (fun _ hq => ?_)
  ·
    exact T_L_law_1901 hd hE hk18 hq
  ·
    refine st_iconst (pc := 1609) (v := (0 : Int32)) dL_law_1609 rfl ?_
    exact bd_zret (pc := 1610) hq dL_law_1610 rfl
def D_L_law_1611 (N : Nat) (L : Nat) (xs : Nat → Int32) (k18 : mh_H → Nat → Nat → Int32 → Option (Int32 × mh_H)) (h : mh_H) (l1 : Nat) (l2 : Nat) (l3 : Int32) : Option (Int32 × mh_H) :=
  sI L (l3 + (1 : Int32)) <|
  kO h 11 l1 <|
  (D_X11_trace N h l1 (xs (l3 + (1 : Int32)).toNatClampNeg)).bind fun q1 =>
  sI L (l3 + (1 : Int32)) <|
  kO q1.2 12 l2 <|
  (D_X12_trace N q1.2 l2 (xs (l3 + (1 : Int32)).toNatClampNeg)).bind fun q2 =>
  if q1.1 = q2.1 then (D_L_law_1901 N L xs k18 q2.2 l1 l2 l3)
  else (zB (0 : Int32) q2.2)
set_option maxHeartbeats 4000000 in
set_option maxRecDepth 100000 in
theorem T_L_law_1611 {P : mh_E → Prop} {N d : Nat} (hd : 47 ≤ d) {L : Nat} {xs : Nat → Int32} (hE : ∀ E, P E → mh_L E = L ∧ mh_xs E = xs) {z : (Int32 × mh_H)} {k18 : mh_H → Nat → Nat → Int32 → Option (Int32 × mh_H)} (hk18 : ∀ (h : mh_H) (l1 : Nat) (l2 : Nat) (l3 : Int32), k18 h l1 l2 l3 = some z → mh_go P d mL_law 18 [some (.ref 1000000000), some (.ref l1), some (.ref l2), some (.int l3)] [] h (some (.int z.1)) z.2) {h : mh_H} {l1 : Nat} {l2 : Nat} {l3 : Int32} (hq : D_L_law_1611 N L xs k18 h l1 l2 l3 = some z) : mh_go P d mL_law 1611 [some (.ref 1000000000), some (.ref l1), some (.ref l2), some (.int l3)] [] h (some (.int z.1)) z.2 := by
  unfold D_L_law_1611 at hq
  refine st_aload_n (pc := 1611) dL_law_1611 rfl ?_
  refine st_aload_n (pc := 1612) dL_law_1612 rfl ?_
  refine st_iload_n (pc := 1613) dL_law_1613 rfl ?_
  refine st_iconst (pc := 1614) (v := (1 : Int32)) dL_law_1614 rfl ?_
  refine st_iadd (pc := 1615) dL_law_1615 ?_
  refine bd_sld (pc := 1616) hq dL_law_1616 hE (fun hq => ?_)
  obtain ⟨⟨hbq1, hkq1⟩, hq⟩ := mh_oi hq
  obtain ⟨q1, e1, hq⟩ := mh_ob hq
  refine st_invV (pc := 1617) (ci := 11) (vs := [.int (xs (l3 + (1 : Int32)).toNatClampNeg)]) (rest := []) (st2 := [.int q1.1]) dL_law_1617 okX11_trace (by decide) hkq1 hbq1 wd_1106 wd_1107 wd_1108 pdX11_trace rfl rfl rfl rfl (Nat.le_trans (by decide) hd) (Nat.le_of_ble_eq_true rfl) (T_X11_trace (Nat.le_refl _) e1) rfl ?_
  refine st_aload_n (pc := 1620) dL_law_1620 rfl ?_
  refine st_aload_n (pc := 1621) dL_law_1621 rfl ?_
  refine st_iload_n (pc := 1622) dL_law_1622 rfl ?_
  refine st_iconst (pc := 1623) (v := (1 : Int32)) dL_law_1623 rfl ?_
  refine st_iadd (pc := 1624) dL_law_1624 ?_
  refine bd_sld (pc := 1625) hq dL_law_1625 hE (fun hq => ?_)
  obtain ⟨⟨hbq2, hkq2⟩, hq⟩ := mh_oi hq
  obtain ⟨q2, e2, hq⟩ := mh_ob hq
  refine st_invV (pc := 1626) (ci := 12) (vs := [.int (xs (l3 + (1 : Int32)).toNatClampNeg)]) (rest := [.int q1.1]) (st2 := [.int q2.1, .int q1.1]) dL_law_1626 okX12_trace (by decide) hkq2 hbq2 wd_1685 wd_1686 wd_1687 pdX12_trace rfl rfl rfl rfl (Nat.le_trans (by decide) hd) (Nat.le_of_ble_eq_true rfl) (T_X12_trace (Nat.le_refl _) e2) rfl ?_
  refine bd_icmp_eq (pc := 1629) (tgt := 1901) hq dL_law_1629 (by decide) (fun _ hq => ?_) (fun _ hq => ?_)
  ·
    exact T_L_law_1901 hd hE hk18 hq
  ·
    refine st_iconst (pc := 1632) (v := (0 : Int32)) dL_law_1632 rfl ?_
    exact bd_zret (pc := 1633) hq dL_law_1633 rfl
def D_L_law_1634 (N : Nat) (L : Nat) (xs : Nat → Int32) (k18 : mh_H → Nat → Nat → Int32 → Option (Int32 × mh_H)) (h : mh_H) (l1 : Nat) (l2 : Nat) (l3 : Int32) : Option (Int32 × mh_H) :=
  sI L (l3 + (1 : Int32)) <|
  sI L (l3 + (2 : Int32)) <|
  sI L (l3 + (3 : Int32)) <|
  kO h 11 l1 <|
  (D_X11_sheet N h l1 (xs (l3 + (1 : Int32)).toNatClampNeg) (xs (l3 + (2 : Int32)).toNatClampNeg) (xs (l3 + (3 : Int32)).toNatClampNeg)).bind fun q1 =>
  sI L (l3 + (1 : Int32)) <|
  sI L (l3 + (2 : Int32)) <|
  sI L (l3 + (3 : Int32)) <|
  kO q1.2 12 l2 <|
  (D_X12_sheet N q1.2 l2 (xs (l3 + (1 : Int32)).toNatClampNeg) (xs (l3 + (2 : Int32)).toNatClampNeg) (xs (l3 + (3 : Int32)).toNatClampNeg)).bind fun q2 =>
  if q1.1 = q2.1 then (D_L_law_1901 N L xs k18 q2.2 l1 l2 l3)
  else (zB (0 : Int32) q2.2)
set_option maxHeartbeats 4000000 in
set_option maxRecDepth 100000 in
theorem T_L_law_1634 {P : mh_E → Prop} {N d : Nat} (hd : 47 ≤ d) {L : Nat} {xs : Nat → Int32} (hE : ∀ E, P E → mh_L E = L ∧ mh_xs E = xs) {z : (Int32 × mh_H)} {k18 : mh_H → Nat → Nat → Int32 → Option (Int32 × mh_H)} (hk18 : ∀ (h : mh_H) (l1 : Nat) (l2 : Nat) (l3 : Int32), k18 h l1 l2 l3 = some z → mh_go P d mL_law 18 [some (.ref 1000000000), some (.ref l1), some (.ref l2), some (.int l3)] [] h (some (.int z.1)) z.2) {h : mh_H} {l1 : Nat} {l2 : Nat} {l3 : Int32} (hq : D_L_law_1634 N L xs k18 h l1 l2 l3 = some z) : mh_go P d mL_law 1634 [some (.ref 1000000000), some (.ref l1), some (.ref l2), some (.int l3)] [] h (some (.int z.1)) z.2 := by
  unfold D_L_law_1634 at hq
  refine st_aload_n (pc := 1634) dL_law_1634 rfl ?_
  refine st_aload_n (pc := 1635) dL_law_1635 rfl ?_
  refine st_iload_n (pc := 1636) dL_law_1636 rfl ?_
  refine st_iconst (pc := 1637) (v := (1 : Int32)) dL_law_1637 rfl ?_
  refine st_iadd (pc := 1638) dL_law_1638 ?_
  refine bd_sld (pc := 1639) hq dL_law_1639 hE (fun hq => ?_)
  refine st_aload_n (pc := 1640) dL_law_1640 rfl ?_
  refine st_iload_n (pc := 1641) dL_law_1641 rfl ?_
  refine st_iconst (pc := 1642) (v := (2 : Int32)) dL_law_1642 rfl ?_
  refine st_iadd (pc := 1643) dL_law_1643 ?_
  refine bd_sld (pc := 1644) hq dL_law_1644 hE (fun hq => ?_)
  refine st_aload_n (pc := 1645) dL_law_1645 rfl ?_
  refine st_iload_n (pc := 1646) dL_law_1646 rfl ?_
  refine st_iconst (pc := 1647) (v := (3 : Int32)) dL_law_1647 rfl ?_
  refine st_iadd (pc := 1648) dL_law_1648 ?_
  refine bd_sld (pc := 1649) hq dL_law_1649 hE (fun hq => ?_)
  obtain ⟨⟨hbq1, hkq1⟩, hq⟩ := mh_oi hq
  obtain ⟨q1, e1, hq⟩ := mh_ob hq
  refine st_invV (pc := 1650) (ci := 11) (vs := [.int (xs (l3 + (1 : Int32)).toNatClampNeg), .int (xs (l3 + (2 : Int32)).toNatClampNeg), .int (xs (l3 + (3 : Int32)).toNatClampNeg)]) (rest := []) (st2 := [.int q1.1]) dL_law_1650 okX11_sheet (by decide) hkq1 hbq1 wd_1111 wd_1112 wd_1113 pdX11_sheet rfl rfl rfl rfl (Nat.le_trans (by decide) hd) (Nat.le_of_ble_eq_true rfl) (T_X11_sheet (Nat.le_refl _) e1) rfl ?_
  refine st_aload_n (pc := 1653) dL_law_1653 rfl ?_
  refine st_aload_n (pc := 1654) dL_law_1654 rfl ?_
  refine st_iload_n (pc := 1655) dL_law_1655 rfl ?_
  refine st_iconst (pc := 1656) (v := (1 : Int32)) dL_law_1656 rfl ?_
  refine st_iadd (pc := 1657) dL_law_1657 ?_
  refine bd_sld (pc := 1658) hq dL_law_1658 hE (fun hq => ?_)
  refine st_aload_n (pc := 1659) dL_law_1659 rfl ?_
  refine st_iload_n (pc := 1660) dL_law_1660 rfl ?_
  refine st_iconst (pc := 1661) (v := (2 : Int32)) dL_law_1661 rfl ?_
  refine st_iadd (pc := 1662) dL_law_1662 ?_
  refine bd_sld (pc := 1663) hq dL_law_1663 hE (fun hq => ?_)
  refine st_aload_n (pc := 1664) dL_law_1664 rfl ?_
  refine st_iload_n (pc := 1665) dL_law_1665 rfl ?_
  refine st_iconst (pc := 1666) (v := (3 : Int32)) dL_law_1666 rfl ?_
  refine st_iadd (pc := 1667) dL_law_1667 ?_
  refine bd_sld (pc := 1668) hq dL_law_1668 hE (fun hq => ?_)
  obtain ⟨⟨hbq2, hkq2⟩, hq⟩ := mh_oi hq
  obtain ⟨q2, e2, hq⟩ := mh_ob hq
  refine st_invV (pc := 1669) (ci := 12) (vs := [.int (xs (l3 + (1 : Int32)).toNatClampNeg), .int (xs (l3 + (2 : Int32)).toNatClampNeg), .int (xs (l3 + (3 : Int32)).toNatClampNeg)]) (rest := [.int q1.1]) (st2 := [.int q2.1, .int q1.1]) dL_law_1669 okX12_sheet (by decide) hkq2 hbq2 wd_1689 wd_1690 wd_1691 pdX12_sheet rfl rfl rfl rfl (Nat.le_trans (by decide) hd) (Nat.le_of_ble_eq_true rfl) (T_X12_sheet (Nat.le_refl _) e2) rfl ?_
  refine bd_icmp_eq (pc := 1672) (tgt := 1901) hq dL_law_1672 (by decide) (fun _ hq => ?_) (fun _ hq => ?_)
  ·
    exact T_L_law_1901 hd hE hk18 hq
  ·
    refine st_iconst (pc := 1675) (v := (0 : Int32)) dL_law_1675 rfl ?_
    exact bd_zret (pc := 1676) hq dL_law_1676 rfl
def D_L_law_1677 (N : Nat) (L : Nat) (xs : Nat → Int32) (k18 : mh_H → Nat → Nat → Int32 → Option (Int32 × mh_H)) (h : mh_H) (l1 : Nat) (l2 : Nat) (l3 : Int32) : Option (Int32 × mh_H) :=
  sI L (l3 + (1 : Int32)) <|
  sI L (l3 + (2 : Int32)) <|
  sI L (l3 + (3 : Int32)) <|
  kO h 11 l1 <|
  (D_X11_place N h l1 (xs (l3 + (1 : Int32)).toNatClampNeg) (xs (l3 + (2 : Int32)).toNatClampNeg) (xs (l3 + (3 : Int32)).toNatClampNeg)).bind fun q1 =>
  sI L (l3 + (1 : Int32)) <|
  sI L (l3 + (2 : Int32)) <|
  sI L (l3 + (3 : Int32)) <|
  kO q1.2 12 l2 <|
  (D_X12_place N q1.2 l2 (xs (l3 + (1 : Int32)).toNatClampNeg) (xs (l3 + (2 : Int32)).toNatClampNeg) (xs (l3 + (3 : Int32)).toNatClampNeg)).bind fun q2 =>
  if q1.1 = q2.1 then (D_L_law_1901 N L xs k18 q2.2 l1 l2 l3)
  else (zB (0 : Int32) q2.2)
set_option maxHeartbeats 4000000 in
set_option maxRecDepth 100000 in
theorem T_L_law_1677 {P : mh_E → Prop} {N d : Nat} (hd : 47 ≤ d) {L : Nat} {xs : Nat → Int32} (hE : ∀ E, P E → mh_L E = L ∧ mh_xs E = xs) {z : (Int32 × mh_H)} {k18 : mh_H → Nat → Nat → Int32 → Option (Int32 × mh_H)} (hk18 : ∀ (h : mh_H) (l1 : Nat) (l2 : Nat) (l3 : Int32), k18 h l1 l2 l3 = some z → mh_go P d mL_law 18 [some (.ref 1000000000), some (.ref l1), some (.ref l2), some (.int l3)] [] h (some (.int z.1)) z.2) {h : mh_H} {l1 : Nat} {l2 : Nat} {l3 : Int32} (hq : D_L_law_1677 N L xs k18 h l1 l2 l3 = some z) : mh_go P d mL_law 1677 [some (.ref 1000000000), some (.ref l1), some (.ref l2), some (.int l3)] [] h (some (.int z.1)) z.2 := by
  unfold D_L_law_1677 at hq
  refine st_aload_n (pc := 1677) dL_law_1677 rfl ?_
  refine st_aload_n (pc := 1678) dL_law_1678 rfl ?_
  refine st_iload_n (pc := 1679) dL_law_1679 rfl ?_
  refine st_iconst (pc := 1680) (v := (1 : Int32)) dL_law_1680 rfl ?_
  refine st_iadd (pc := 1681) dL_law_1681 ?_
  refine bd_sld (pc := 1682) hq dL_law_1682 hE (fun hq => ?_)
  refine st_aload_n (pc := 1683) dL_law_1683 rfl ?_
  refine st_iload_n (pc := 1684) dL_law_1684 rfl ?_
  refine st_iconst (pc := 1685) (v := (2 : Int32)) dL_law_1685 rfl ?_
  refine st_iadd (pc := 1686) dL_law_1686 ?_
  refine bd_sld (pc := 1687) hq dL_law_1687 hE (fun hq => ?_)
  refine st_aload_n (pc := 1688) dL_law_1688 rfl ?_
  refine st_iload_n (pc := 1689) dL_law_1689 rfl ?_
  refine st_iconst (pc := 1690) (v := (3 : Int32)) dL_law_1690 rfl ?_
  refine st_iadd (pc := 1691) dL_law_1691 ?_
  refine bd_sld (pc := 1692) hq dL_law_1692 hE (fun hq => ?_)
  obtain ⟨⟨hbq1, hkq1⟩, hq⟩ := mh_oi hq
  obtain ⟨q1, e1, hq⟩ := mh_ob hq
  refine st_invV (pc := 1693) (ci := 11) (vs := [.int (xs (l3 + (1 : Int32)).toNatClampNeg), .int (xs (l3 + (2 : Int32)).toNatClampNeg), .int (xs (l3 + (3 : Int32)).toNatClampNeg)]) (rest := []) (st2 := [.int q1.1]) dL_law_1693 okX11_place (by decide) hkq1 hbq1 wd_1115 wd_1116 wd_1117 pdX11_place rfl rfl rfl rfl (Nat.le_trans (by decide) hd) (Nat.le_of_ble_eq_true rfl) (T_X11_place (Nat.le_refl _) e1) rfl ?_
  refine st_aload_n (pc := 1696) dL_law_1696 rfl ?_
  refine st_aload_n (pc := 1697) dL_law_1697 rfl ?_
  refine st_iload_n (pc := 1698) dL_law_1698 rfl ?_
  refine st_iconst (pc := 1699) (v := (1 : Int32)) dL_law_1699 rfl ?_
  refine st_iadd (pc := 1700) dL_law_1700 ?_
  refine bd_sld (pc := 1701) hq dL_law_1701 hE (fun hq => ?_)
  refine st_aload_n (pc := 1702) dL_law_1702 rfl ?_
  refine st_iload_n (pc := 1703) dL_law_1703 rfl ?_
  refine st_iconst (pc := 1704) (v := (2 : Int32)) dL_law_1704 rfl ?_
  refine st_iadd (pc := 1705) dL_law_1705 ?_
  refine bd_sld (pc := 1706) hq dL_law_1706 hE (fun hq => ?_)
  refine st_aload_n (pc := 1707) dL_law_1707 rfl ?_
  refine st_iload_n (pc := 1708) dL_law_1708 rfl ?_
  refine st_iconst (pc := 1709) (v := (3 : Int32)) dL_law_1709 rfl ?_
  refine st_iadd (pc := 1710) dL_law_1710 ?_
  refine bd_sld (pc := 1711) hq dL_law_1711 hE (fun hq => ?_)
  obtain ⟨⟨hbq2, hkq2⟩, hq⟩ := mh_oi hq
  obtain ⟨q2, e2, hq⟩ := mh_ob hq
  refine st_invV (pc := 1712) (ci := 12) (vs := [.int (xs (l3 + (1 : Int32)).toNatClampNeg), .int (xs (l3 + (2 : Int32)).toNatClampNeg), .int (xs (l3 + (3 : Int32)).toNatClampNeg)]) (rest := [.int q1.1]) (st2 := [.int q2.1, .int q1.1]) dL_law_1712 okX12_place (by decide) hkq2 hbq2 wd_1693 wd_1694 wd_1695 pdX12_place rfl rfl rfl rfl (Nat.le_trans (by decide) hd) (Nat.le_of_ble_eq_true rfl) (T_X12_place (Nat.le_refl _) e2) rfl ?_
  refine bd_icmp_eq (pc := 1715) (tgt := 1901) hq dL_law_1715 (by decide) (fun _ hq => ?_) (fun _ hq => ?_)
  ·
    exact T_L_law_1901 hd hE hk18 hq
  ·
    refine st_iconst (pc := 1718) (v := (0 : Int32)) dL_law_1718 rfl ?_
    exact bd_zret (pc := 1719) hq dL_law_1719 rfl
def D_L_law_1720 (N : Nat) (L : Nat) (xs : Nat → Int32) (k18 : mh_H → Nat → Nat → Int32 → Option (Int32 × mh_H)) (h : mh_H) (l1 : Nat) (l2 : Nat) (l3 : Int32) : Option (Int32 × mh_H) :=
  sI L (l3 + (1 : Int32)) <|
  sI L (l3 + (2 : Int32)) <|
  sI L (l3 + (3 : Int32)) <|
  sI L (l3 + (4 : Int32)) <|
  sI L (l3 + (5 : Int32)) <|
  kO h 11 l1 <|
  (D_X11_move N h l1 (xs (l3 + (1 : Int32)).toNatClampNeg) (xs (l3 + (2 : Int32)).toNatClampNeg) (xs (l3 + (3 : Int32)).toNatClampNeg) (xs (l3 + (4 : Int32)).toNatClampNeg) (xs (l3 + (5 : Int32)).toNatClampNeg)).bind fun q1 =>
  sI L (l3 + (1 : Int32)) <|
  sI L (l3 + (2 : Int32)) <|
  sI L (l3 + (3 : Int32)) <|
  sI L (l3 + (4 : Int32)) <|
  sI L (l3 + (5 : Int32)) <|
  kO q1.2 12 l2 <|
  (D_X12_move N q1.2 l2 (xs (l3 + (1 : Int32)).toNatClampNeg) (xs (l3 + (2 : Int32)).toNatClampNeg) (xs (l3 + (3 : Int32)).toNatClampNeg) (xs (l3 + (4 : Int32)).toNatClampNeg) (xs (l3 + (5 : Int32)).toNatClampNeg)).bind fun q2 =>
  if q1.1 = q2.1 then (D_L_law_1901 N L xs k18 q2.2 l1 l2 l3)
  else (zB (0 : Int32) q2.2)
set_option maxHeartbeats 4000000 in
set_option maxRecDepth 100000 in
theorem T_L_law_1720 {P : mh_E → Prop} {N d : Nat} (hd : 47 ≤ d) {L : Nat} {xs : Nat → Int32} (hE : ∀ E, P E → mh_L E = L ∧ mh_xs E = xs) {z : (Int32 × mh_H)} {k18 : mh_H → Nat → Nat → Int32 → Option (Int32 × mh_H)} (hk18 : ∀ (h : mh_H) (l1 : Nat) (l2 : Nat) (l3 : Int32), k18 h l1 l2 l3 = some z → mh_go P d mL_law 18 [some (.ref 1000000000), some (.ref l1), some (.ref l2), some (.int l3)] [] h (some (.int z.1)) z.2) {h : mh_H} {l1 : Nat} {l2 : Nat} {l3 : Int32} (hq : D_L_law_1720 N L xs k18 h l1 l2 l3 = some z) : mh_go P d mL_law 1720 [some (.ref 1000000000), some (.ref l1), some (.ref l2), some (.int l3)] [] h (some (.int z.1)) z.2 := by
  unfold D_L_law_1720 at hq
  refine st_aload_n (pc := 1720) dL_law_1720 rfl ?_
  refine st_aload_n (pc := 1721) dL_law_1721 rfl ?_
  refine st_iload_n (pc := 1722) dL_law_1722 rfl ?_
  refine st_iconst (pc := 1723) (v := (1 : Int32)) dL_law_1723 rfl ?_
  refine st_iadd (pc := 1724) dL_law_1724 ?_
  refine bd_sld (pc := 1725) hq dL_law_1725 hE (fun hq => ?_)
  refine st_aload_n (pc := 1726) dL_law_1726 rfl ?_
  refine st_iload_n (pc := 1727) dL_law_1727 rfl ?_
  refine st_iconst (pc := 1728) (v := (2 : Int32)) dL_law_1728 rfl ?_
  refine st_iadd (pc := 1729) dL_law_1729 ?_
  refine bd_sld (pc := 1730) hq dL_law_1730 hE (fun hq => ?_)
  refine st_aload_n (pc := 1731) dL_law_1731 rfl ?_
  refine st_iload_n (pc := 1732) dL_law_1732 rfl ?_
  refine st_iconst (pc := 1733) (v := (3 : Int32)) dL_law_1733 rfl ?_
  refine st_iadd (pc := 1734) dL_law_1734 ?_
  refine bd_sld (pc := 1735) hq dL_law_1735 hE (fun hq => ?_)
  refine st_aload_n (pc := 1736) dL_law_1736 rfl ?_
  refine st_iload_n (pc := 1737) dL_law_1737 rfl ?_
  refine st_iconst (pc := 1738) (v := (4 : Int32)) dL_law_1738 rfl ?_
  refine st_iadd (pc := 1739) dL_law_1739 ?_
  refine bd_sld (pc := 1740) hq dL_law_1740 hE (fun hq => ?_)
  refine st_aload_n (pc := 1741) dL_law_1741 rfl ?_
  refine st_iload_n (pc := 1742) dL_law_1742 rfl ?_
  refine st_iconst (pc := 1743) (v := (5 : Int32)) dL_law_1743 rfl ?_
  refine st_iadd (pc := 1744) dL_law_1744 ?_
  refine bd_sld (pc := 1745) hq dL_law_1745 hE (fun hq => ?_)
  obtain ⟨⟨hbq1, hkq1⟩, hq⟩ := mh_oi hq
  obtain ⟨q1, e1, hq⟩ := mh_ob hq
  refine st_invV (pc := 1746) (ci := 11) (vs := [.int (xs (l3 + (1 : Int32)).toNatClampNeg), .int (xs (l3 + (2 : Int32)).toNatClampNeg), .int (xs (l3 + (3 : Int32)).toNatClampNeg), .int (xs (l3 + (4 : Int32)).toNatClampNeg), .int (xs (l3 + (5 : Int32)).toNatClampNeg)]) (rest := []) (st2 := [.int q1.1]) dL_law_1746 okX11_move (by decide) hkq1 hbq1 wd_1122 wd_1123 wd_1124 pdX11_move rfl rfl rfl rfl (Nat.le_trans (by decide) hd) (Nat.le_of_ble_eq_true rfl) (T_X11_move (Nat.le_refl _) e1) rfl ?_
  refine st_aload_n (pc := 1749) dL_law_1749 rfl ?_
  refine st_aload_n (pc := 1750) dL_law_1750 rfl ?_
  refine st_iload_n (pc := 1751) dL_law_1751 rfl ?_
  refine st_iconst (pc := 1752) (v := (1 : Int32)) dL_law_1752 rfl ?_
  refine st_iadd (pc := 1753) dL_law_1753 ?_
  refine bd_sld (pc := 1754) hq dL_law_1754 hE (fun hq => ?_)
  refine st_aload_n (pc := 1755) dL_law_1755 rfl ?_
  refine st_iload_n (pc := 1756) dL_law_1756 rfl ?_
  refine st_iconst (pc := 1757) (v := (2 : Int32)) dL_law_1757 rfl ?_
  refine st_iadd (pc := 1758) dL_law_1758 ?_
  refine bd_sld (pc := 1759) hq dL_law_1759 hE (fun hq => ?_)
  refine st_aload_n (pc := 1760) dL_law_1760 rfl ?_
  refine st_iload_n (pc := 1761) dL_law_1761 rfl ?_
  refine st_iconst (pc := 1762) (v := (3 : Int32)) dL_law_1762 rfl ?_
  refine st_iadd (pc := 1763) dL_law_1763 ?_
  refine bd_sld (pc := 1764) hq dL_law_1764 hE (fun hq => ?_)
  refine st_aload_n (pc := 1765) dL_law_1765 rfl ?_
  refine st_iload_n (pc := 1766) dL_law_1766 rfl ?_
  refine st_iconst (pc := 1767) (v := (4 : Int32)) dL_law_1767 rfl ?_
  refine st_iadd (pc := 1768) dL_law_1768 ?_
  refine bd_sld (pc := 1769) hq dL_law_1769 hE (fun hq => ?_)
  refine st_aload_n (pc := 1770) dL_law_1770 rfl ?_
  refine st_iload_n (pc := 1771) dL_law_1771 rfl ?_
  refine st_iconst (pc := 1772) (v := (5 : Int32)) dL_law_1772 rfl ?_
  refine st_iadd (pc := 1773) dL_law_1773 ?_
  refine bd_sld (pc := 1774) hq dL_law_1774 hE (fun hq => ?_)
  obtain ⟨⟨hbq2, hkq2⟩, hq⟩ := mh_oi hq
  obtain ⟨q2, e2, hq⟩ := mh_ob hq
  refine st_invV (pc := 1775) (ci := 12) (vs := [.int (xs (l3 + (1 : Int32)).toNatClampNeg), .int (xs (l3 + (2 : Int32)).toNatClampNeg), .int (xs (l3 + (3 : Int32)).toNatClampNeg), .int (xs (l3 + (4 : Int32)).toNatClampNeg), .int (xs (l3 + (5 : Int32)).toNatClampNeg)]) (rest := [.int q1.1]) (st2 := [.int q2.1, .int q1.1]) dL_law_1775 okX12_move (by decide) hkq2 hbq2 wd_1697 wd_1698 wd_1699 pdX12_move rfl rfl rfl rfl (Nat.le_trans (by decide) hd) (Nat.le_of_ble_eq_true rfl) (T_X12_move (Nat.le_refl _) e2) rfl ?_
  refine bd_icmp_eq (pc := 1778) (tgt := 1901) hq dL_law_1778 (by decide) (fun _ hq => ?_) (fun _ hq => ?_)
  ·
    exact T_L_law_1901 hd hE hk18 hq
  ·
    refine st_iconst (pc := 1781) (v := (0 : Int32)) dL_law_1781 rfl ?_
    exact bd_zret (pc := 1782) hq dL_law_1782 rfl
def D_L_law_1783 (N : Nat) (L : Nat) (xs : Nat → Int32) (k18 : mh_H → Nat → Nat → Int32 → Option (Int32 × mh_H)) (h : mh_H) (l1 : Nat) (l2 : Nat) (l3 : Int32) : Option (Int32 × mh_H) :=
  kO h 11 l1 <|
  (D_X11_image N h l1).bind fun q1 =>
  kO q1.2 12 l2 <|
  (D_X12_image N q1.2 l2).bind fun q2 =>
  if q1.1 = q2.1 then (D_L_law_1901 N L xs k18 q2.2 l1 l2 l3)
  else (zB (0 : Int32) q2.2)
set_option maxHeartbeats 4000000 in
set_option maxRecDepth 100000 in
theorem T_L_law_1783 {P : mh_E → Prop} {N d : Nat} (hd : 47 ≤ d) {L : Nat} {xs : Nat → Int32} (hE : ∀ E, P E → mh_L E = L ∧ mh_xs E = xs) {z : (Int32 × mh_H)} {k18 : mh_H → Nat → Nat → Int32 → Option (Int32 × mh_H)} (hk18 : ∀ (h : mh_H) (l1 : Nat) (l2 : Nat) (l3 : Int32), k18 h l1 l2 l3 = some z → mh_go P d mL_law 18 [some (.ref 1000000000), some (.ref l1), some (.ref l2), some (.int l3)] [] h (some (.int z.1)) z.2) {h : mh_H} {l1 : Nat} {l2 : Nat} {l3 : Int32} (hq : D_L_law_1783 N L xs k18 h l1 l2 l3 = some z) : mh_go P d mL_law 1783 [some (.ref 1000000000), some (.ref l1), some (.ref l2), some (.int l3)] [] h (some (.int z.1)) z.2 := by
  unfold D_L_law_1783 at hq
  refine st_aload_n (pc := 1783) dL_law_1783 rfl ?_
  obtain ⟨⟨hbq1, hkq1⟩, hq⟩ := mh_oi hq
  obtain ⟨q1, e1, hq⟩ := mh_ob hq
  refine st_invV (pc := 1784) (ci := 11) (vs := []) (rest := []) (st2 := [.int q1.1]) dL_law_1784 okX11_image (by decide) hkq1 hbq1 wd_1127 wd_1128 wd_1129 pdX11_image rfl rfl rfl rfl (Nat.le_trans (by decide) hd) (Nat.le_of_ble_eq_true rfl) (T_X11_image (Nat.le_refl _) e1) rfl ?_
  refine st_aload_n (pc := 1787) dL_law_1787 rfl ?_
  obtain ⟨⟨hbq2, hkq2⟩, hq⟩ := mh_oi hq
  obtain ⟨q2, e2, hq⟩ := mh_ob hq
  refine st_invV (pc := 1788) (ci := 12) (vs := []) (rest := [.int q1.1]) (st2 := [.int q2.1, .int q1.1]) dL_law_1788 okX12_image (by decide) hkq2 hbq2 wd_1701 wd_1702 wd_1703 pdX12_image rfl rfl rfl rfl (Nat.le_trans (by decide) hd) (Nat.le_of_ble_eq_true rfl) (T_X12_image (Nat.le_refl _) e2) rfl ?_
  refine bd_icmp_eq (pc := 1791) (tgt := 1901) hq dL_law_1791 (by decide) (fun _ hq => ?_) (fun _ hq => ?_)
  ·
    exact T_L_law_1901 hd hE hk18 hq
  ·
    refine st_iconst (pc := 1794) (v := (0 : Int32)) dL_law_1794 rfl ?_
    exact bd_zret (pc := 1795) hq dL_law_1795 rfl
def D_L_law_1796 (N : Nat) (L : Nat) (xs : Nat → Int32) (k18 : mh_H → Nat → Nat → Int32 → Option (Int32 × mh_H)) (h : mh_H) (l1 : Nat) (l2 : Nat) (l3 : Int32) : Option (Int32 × mh_H) :=
  kO h 11 l1 <|
  (D_X11_restore N h l1).bind fun q1 =>
  kO q1.2 12 l2 <|
  (D_X12_restore N q1.2 l2).bind fun q2 =>
  if q1.1 = q2.1 then (D_L_law_1901 N L xs k18 q2.2 l1 l2 l3)
  else (zB (0 : Int32) q2.2)
set_option maxHeartbeats 4000000 in
set_option maxRecDepth 100000 in
theorem T_L_law_1796 {P : mh_E → Prop} {N d : Nat} (hd : 47 ≤ d) {L : Nat} {xs : Nat → Int32} (hE : ∀ E, P E → mh_L E = L ∧ mh_xs E = xs) {z : (Int32 × mh_H)} {k18 : mh_H → Nat → Nat → Int32 → Option (Int32 × mh_H)} (hk18 : ∀ (h : mh_H) (l1 : Nat) (l2 : Nat) (l3 : Int32), k18 h l1 l2 l3 = some z → mh_go P d mL_law 18 [some (.ref 1000000000), some (.ref l1), some (.ref l2), some (.int l3)] [] h (some (.int z.1)) z.2) {h : mh_H} {l1 : Nat} {l2 : Nat} {l3 : Int32} (hq : D_L_law_1796 N L xs k18 h l1 l2 l3 = some z) : mh_go P d mL_law 1796 [some (.ref 1000000000), some (.ref l1), some (.ref l2), some (.int l3)] [] h (some (.int z.1)) z.2 := by
  unfold D_L_law_1796 at hq
  refine st_aload_n (pc := 1796) dL_law_1796 rfl ?_
  obtain ⟨⟨hbq1, hkq1⟩, hq⟩ := mh_oi hq
  obtain ⟨q1, e1, hq⟩ := mh_ob hq
  refine st_invV (pc := 1797) (ci := 11) (vs := []) (rest := []) (st2 := [.int q1.1]) dL_law_1797 okX11_restore (by decide) hkq1 hbq1 wd_1143 wd_1144 wd_1145 pdX11_restore rfl rfl rfl rfl (Nat.le_trans (by decide) hd) (Nat.le_of_ble_eq_true rfl) (T_X11_restore (Nat.le_refl _) e1) rfl ?_
  refine st_aload_n (pc := 1800) dL_law_1800 rfl ?_
  obtain ⟨⟨hbq2, hkq2⟩, hq⟩ := mh_oi hq
  obtain ⟨q2, e2, hq⟩ := mh_ob hq
  refine st_invV (pc := 1801) (ci := 12) (vs := []) (rest := [.int q1.1]) (st2 := [.int q2.1, .int q1.1]) dL_law_1801 okX12_restore (by decide) hkq2 hbq2 wd_1705 wd_1706 wd_1707 pdX12_restore rfl rfl rfl rfl (Nat.le_trans (by decide) hd) (Nat.le_of_ble_eq_true rfl) (T_X12_restore (Nat.le_refl _) e2) rfl ?_
  refine bd_icmp_eq (pc := 1804) (tgt := 1901) hq dL_law_1804 (by decide) (fun _ hq => ?_) (fun _ hq => ?_)
  ·
    exact T_L_law_1901 hd hE hk18 hq
  ·
    refine st_iconst (pc := 1807) (v := (0 : Int32)) dL_law_1807 rfl ?_
    exact bd_zret (pc := 1808) hq dL_law_1808 rfl
def D_L_law_1809 (N : Nat) (L : Nat) (xs : Nat → Int32) (k18 : mh_H → Nat → Nat → Int32 → Option (Int32 × mh_H)) (h : mh_H) (l1 : Nat) (l2 : Nat) (l3 : Int32) : Option (Int32 × mh_H) :=
  sI L (l3 + (1 : Int32)) <|
  kO h 11 l1 <|
  (D_X11_tell N h l1 (xs (l3 + (1 : Int32)).toNatClampNeg)).bind fun q1 =>
  sI L (l3 + (1 : Int32)) <|
  kO q1.2 12 l2 <|
  (D_X12_tell N q1.2 l2 (xs (l3 + (1 : Int32)).toNatClampNeg)).bind fun q2 =>
  if q1.1 = q2.1 then (D_L_law_1901 N L xs k18 q2.2 l1 l2 l3)
  else (zB (0 : Int32) q2.2)
set_option maxHeartbeats 4000000 in
set_option maxRecDepth 100000 in
theorem T_L_law_1809 {P : mh_E → Prop} {N d : Nat} (hd : 47 ≤ d) {L : Nat} {xs : Nat → Int32} (hE : ∀ E, P E → mh_L E = L ∧ mh_xs E = xs) {z : (Int32 × mh_H)} {k18 : mh_H → Nat → Nat → Int32 → Option (Int32 × mh_H)} (hk18 : ∀ (h : mh_H) (l1 : Nat) (l2 : Nat) (l3 : Int32), k18 h l1 l2 l3 = some z → mh_go P d mL_law 18 [some (.ref 1000000000), some (.ref l1), some (.ref l2), some (.int l3)] [] h (some (.int z.1)) z.2) {h : mh_H} {l1 : Nat} {l2 : Nat} {l3 : Int32} (hq : D_L_law_1809 N L xs k18 h l1 l2 l3 = some z) : mh_go P d mL_law 1809 [some (.ref 1000000000), some (.ref l1), some (.ref l2), some (.int l3)] [] h (some (.int z.1)) z.2 := by
  unfold D_L_law_1809 at hq
  refine st_aload_n (pc := 1809) dL_law_1809 rfl ?_
  refine st_aload_n (pc := 1810) dL_law_1810 rfl ?_
  refine st_iload_n (pc := 1811) dL_law_1811 rfl ?_
  refine st_iconst (pc := 1812) (v := (1 : Int32)) dL_law_1812 rfl ?_
  refine st_iadd (pc := 1813) dL_law_1813 ?_
  refine bd_sld (pc := 1814) hq dL_law_1814 hE (fun hq => ?_)
  obtain ⟨⟨hbq1, hkq1⟩, hq⟩ := mh_oi hq
  obtain ⟨q1, e1, hq⟩ := mh_ob hq
  refine st_invV (pc := 1815) (ci := 11) (vs := [.int (xs (l3 + (1 : Int32)).toNatClampNeg)]) (rest := []) (st2 := [.int q1.1]) dL_law_1815 okX11_tell (by decide) hkq1 hbq1 wd_1147 wd_1148 wd_1149 pdX11_tell rfl rfl rfl rfl (Nat.le_trans (by decide) hd) (Nat.le_of_ble_eq_true rfl) (T_X11_tell (Nat.le_refl _) e1) rfl ?_
  refine st_aload_n (pc := 1818) dL_law_1818 rfl ?_
  refine st_aload_n (pc := 1819) dL_law_1819 rfl ?_
  refine st_iload_n (pc := 1820) dL_law_1820 rfl ?_
  refine st_iconst (pc := 1821) (v := (1 : Int32)) dL_law_1821 rfl ?_
  refine st_iadd (pc := 1822) dL_law_1822 ?_
  refine bd_sld (pc := 1823) hq dL_law_1823 hE (fun hq => ?_)
  obtain ⟨⟨hbq2, hkq2⟩, hq⟩ := mh_oi hq
  obtain ⟨q2, e2, hq⟩ := mh_ob hq
  refine st_invV (pc := 1824) (ci := 12) (vs := [.int (xs (l3 + (1 : Int32)).toNatClampNeg)]) (rest := [.int q1.1]) (st2 := [.int q2.1, .int q1.1]) dL_law_1824 okX12_tell (by decide) hkq2 hbq2 wd_1709 wd_1710 wd_1711 pdX12_tell rfl rfl rfl rfl (Nat.le_trans (by decide) hd) (Nat.le_of_ble_eq_true rfl) (T_X12_tell (Nat.le_refl _) e2) rfl ?_
  refine bd_icmp_eq (pc := 1827) (tgt := 1901) hq dL_law_1827 (by decide) (fun _ hq => ?_) (fun _ hq => ?_)
  ·
    exact T_L_law_1901 hd hE hk18 hq
  ·
    refine st_iconst (pc := 1830) (v := (0 : Int32)) dL_law_1830 rfl ?_
    exact bd_zret (pc := 1831) hq dL_law_1831 rfl
def D_L_law_1832 (N : Nat) (L : Nat) (xs : Nat → Int32) (k18 : mh_H → Nat → Nat → Int32 → Option (Int32 × mh_H)) (h : mh_H) (l1 : Nat) (l2 : Nat) (l3 : Int32) : Option (Int32 × mh_H) :=
  sI L (l3 + (1 : Int32)) <|
  kO h 11 l1 <|
  (D_X11_check N h l1 (xs (l3 + (1 : Int32)).toNatClampNeg)).bind fun q1 =>
  sI L (l3 + (1 : Int32)) <|
  kO q1.2 12 l2 <|
  (D_X12_check N q1.2 l2 (xs (l3 + (1 : Int32)).toNatClampNeg)).bind fun q2 =>
  if q1.1 = q2.1 then (D_L_law_1901 N L xs k18 q2.2 l1 l2 l3)
  else (zB (0 : Int32) q2.2)
set_option maxHeartbeats 4000000 in
set_option maxRecDepth 100000 in
theorem T_L_law_1832 {P : mh_E → Prop} {N d : Nat} (hd : 47 ≤ d) {L : Nat} {xs : Nat → Int32} (hE : ∀ E, P E → mh_L E = L ∧ mh_xs E = xs) {z : (Int32 × mh_H)} {k18 : mh_H → Nat → Nat → Int32 → Option (Int32 × mh_H)} (hk18 : ∀ (h : mh_H) (l1 : Nat) (l2 : Nat) (l3 : Int32), k18 h l1 l2 l3 = some z → mh_go P d mL_law 18 [some (.ref 1000000000), some (.ref l1), some (.ref l2), some (.int l3)] [] h (some (.int z.1)) z.2) {h : mh_H} {l1 : Nat} {l2 : Nat} {l3 : Int32} (hq : D_L_law_1832 N L xs k18 h l1 l2 l3 = some z) : mh_go P d mL_law 1832 [some (.ref 1000000000), some (.ref l1), some (.ref l2), some (.int l3)] [] h (some (.int z.1)) z.2 := by
  unfold D_L_law_1832 at hq
  refine st_aload_n (pc := 1832) dL_law_1832 rfl ?_
  refine st_aload_n (pc := 1833) dL_law_1833 rfl ?_
  refine st_iload_n (pc := 1834) dL_law_1834 rfl ?_
  refine st_iconst (pc := 1835) (v := (1 : Int32)) dL_law_1835 rfl ?_
  refine st_iadd (pc := 1836) dL_law_1836 ?_
  refine bd_sld (pc := 1837) hq dL_law_1837 hE (fun hq => ?_)
  obtain ⟨⟨hbq1, hkq1⟩, hq⟩ := mh_oi hq
  obtain ⟨q1, e1, hq⟩ := mh_ob hq
  refine st_invV (pc := 1838) (ci := 11) (vs := [.int (xs (l3 + (1 : Int32)).toNatClampNeg)]) (rest := []) (st2 := [.int q1.1]) dL_law_1838 okX11_check (by decide) hkq1 hbq1 wd_1151 wd_1152 wd_1153 pdX11_check rfl rfl rfl rfl (Nat.le_trans (by decide) hd) (Nat.le_of_ble_eq_true rfl) (T_X11_check (Nat.le_refl _) e1) rfl ?_
  refine st_aload_n (pc := 1841) dL_law_1841 rfl ?_
  refine st_aload_n (pc := 1842) dL_law_1842 rfl ?_
  refine st_iload_n (pc := 1843) dL_law_1843 rfl ?_
  refine st_iconst (pc := 1844) (v := (1 : Int32)) dL_law_1844 rfl ?_
  refine st_iadd (pc := 1845) dL_law_1845 ?_
  refine bd_sld (pc := 1846) hq dL_law_1846 hE (fun hq => ?_)
  obtain ⟨⟨hbq2, hkq2⟩, hq⟩ := mh_oi hq
  obtain ⟨q2, e2, hq⟩ := mh_ob hq
  refine st_invV (pc := 1847) (ci := 12) (vs := [.int (xs (l3 + (1 : Int32)).toNatClampNeg)]) (rest := [.int q1.1]) (st2 := [.int q2.1, .int q1.1]) dL_law_1847 okX12_check (by decide) hkq2 hbq2 wd_1713 wd_1714 wd_1715 pdX12_check rfl rfl rfl rfl (Nat.le_trans (by decide) hd) (Nat.le_of_ble_eq_true rfl) (T_X12_check (Nat.le_refl _) e2) rfl ?_
  refine bd_icmp_eq (pc := 1850) (tgt := 1901) hq dL_law_1850 (by decide) (fun _ hq => ?_) (fun _ hq => ?_)
  ·
    exact T_L_law_1901 hd hE hk18 hq
  ·
    refine st_iconst (pc := 1853) (v := (0 : Int32)) dL_law_1853 rfl ?_
    exact bd_zret (pc := 1854) hq dL_law_1854 rfl
def D_L_law_1855 (N : Nat) (L : Nat) (xs : Nat → Int32) (k18 : mh_H → Nat → Nat → Int32 → Option (Int32 × mh_H)) (h : mh_H) (l1 : Nat) (l2 : Nat) (l3 : Int32) : Option (Int32 × mh_H) :=
  sI L (l3 + (1 : Int32)) <|
  kO h 11 l1 <|
  (D_X11_count N h l1 (xs (l3 + (1 : Int32)).toNatClampNeg)).bind fun q1 =>
  sI L (l3 + (1 : Int32)) <|
  kO q1.2 12 l2 <|
  (D_X12_count N q1.2 l2 (xs (l3 + (1 : Int32)).toNatClampNeg)).bind fun q2 =>
  if q1.1 = q2.1 then (D_L_law_1901 N L xs k18 q2.2 l1 l2 l3)
  else (zB (0 : Int32) q2.2)
set_option maxHeartbeats 4000000 in
set_option maxRecDepth 100000 in
theorem T_L_law_1855 {P : mh_E → Prop} {N d : Nat} (hd : 47 ≤ d) {L : Nat} {xs : Nat → Int32} (hE : ∀ E, P E → mh_L E = L ∧ mh_xs E = xs) {z : (Int32 × mh_H)} {k18 : mh_H → Nat → Nat → Int32 → Option (Int32 × mh_H)} (hk18 : ∀ (h : mh_H) (l1 : Nat) (l2 : Nat) (l3 : Int32), k18 h l1 l2 l3 = some z → mh_go P d mL_law 18 [some (.ref 1000000000), some (.ref l1), some (.ref l2), some (.int l3)] [] h (some (.int z.1)) z.2) {h : mh_H} {l1 : Nat} {l2 : Nat} {l3 : Int32} (hq : D_L_law_1855 N L xs k18 h l1 l2 l3 = some z) : mh_go P d mL_law 1855 [some (.ref 1000000000), some (.ref l1), some (.ref l2), some (.int l3)] [] h (some (.int z.1)) z.2 := by
  unfold D_L_law_1855 at hq
  refine st_aload_n (pc := 1855) dL_law_1855 rfl ?_
  refine st_aload_n (pc := 1856) dL_law_1856 rfl ?_
  refine st_iload_n (pc := 1857) dL_law_1857 rfl ?_
  refine st_iconst (pc := 1858) (v := (1 : Int32)) dL_law_1858 rfl ?_
  refine st_iadd (pc := 1859) dL_law_1859 ?_
  refine bd_sld (pc := 1860) hq dL_law_1860 hE (fun hq => ?_)
  obtain ⟨⟨hbq1, hkq1⟩, hq⟩ := mh_oi hq
  obtain ⟨q1, e1, hq⟩ := mh_ob hq
  refine st_invV (pc := 1861) (ci := 11) (vs := [.int (xs (l3 + (1 : Int32)).toNatClampNeg)]) (rest := []) (st2 := [.int q1.1]) dL_law_1861 okX11_count (by decide) hkq1 hbq1 wd_1156 wd_1157 wd_1158 pdX11_count rfl rfl rfl rfl (Nat.le_trans (by decide) hd) (Nat.le_of_ble_eq_true rfl) (T_X11_count (Nat.le_refl _) e1) rfl ?_
  refine st_aload_n (pc := 1864) dL_law_1864 rfl ?_
  refine st_aload_n (pc := 1865) dL_law_1865 rfl ?_
  refine st_iload_n (pc := 1866) dL_law_1866 rfl ?_
  refine st_iconst (pc := 1867) (v := (1 : Int32)) dL_law_1867 rfl ?_
  refine st_iadd (pc := 1868) dL_law_1868 ?_
  refine bd_sld (pc := 1869) hq dL_law_1869 hE (fun hq => ?_)
  obtain ⟨⟨hbq2, hkq2⟩, hq⟩ := mh_oi hq
  obtain ⟨q2, e2, hq⟩ := mh_ob hq
  refine st_invV (pc := 1870) (ci := 12) (vs := [.int (xs (l3 + (1 : Int32)).toNatClampNeg)]) (rest := [.int q1.1]) (st2 := [.int q2.1, .int q1.1]) dL_law_1870 okX12_count (by decide) hkq2 hbq2 wd_1717 wd_1718 wd_1719 pdX12_count rfl rfl rfl rfl (Nat.le_trans (by decide) hd) (Nat.le_of_ble_eq_true rfl) (T_X12_count (Nat.le_refl _) e2) rfl ?_
  refine bd_icmp_eq (pc := 1873) (tgt := 1901) hq dL_law_1873 (by decide) (fun _ hq => ?_) (fun _ hq => ?_)
  ·
    exact T_L_law_1901 hd hE hk18 hq
  ·
    refine st_iconst (pc := 1876) (v := (0 : Int32)) dL_law_1876 rfl ?_
    exact bd_zret (pc := 1877) hq dL_law_1877 rfl
def D_L_law_1878 (N : Nat) (L : Nat) (xs : Nat → Int32) (k18 : mh_H → Nat → Nat → Int32 → Option (Int32 × mh_H)) (h : mh_H) (l1 : Nat) (l2 : Nat) (l3 : Int32) : Option (Int32 × mh_H) :=
  sI L (l3 + (1 : Int32)) <|
  kO h 11 l1 <|
  (D_X11_told N h l1 (xs (l3 + (1 : Int32)).toNatClampNeg)).bind fun q1 =>
  sI L (l3 + (1 : Int32)) <|
  kO q1.2 12 l2 <|
  (D_X12_told N q1.2 l2 (xs (l3 + (1 : Int32)).toNatClampNeg)).bind fun q2 =>
  if q1.1 = q2.1 then (D_L_law_1901 N L xs k18 q2.2 l1 l2 l3)
  else (zB (0 : Int32) q2.2)
set_option maxHeartbeats 4000000 in
set_option maxRecDepth 100000 in
theorem T_L_law_1878 {P : mh_E → Prop} {N d : Nat} (hd : 47 ≤ d) {L : Nat} {xs : Nat → Int32} (hE : ∀ E, P E → mh_L E = L ∧ mh_xs E = xs) {z : (Int32 × mh_H)} {k18 : mh_H → Nat → Nat → Int32 → Option (Int32 × mh_H)} (hk18 : ∀ (h : mh_H) (l1 : Nat) (l2 : Nat) (l3 : Int32), k18 h l1 l2 l3 = some z → mh_go P d mL_law 18 [some (.ref 1000000000), some (.ref l1), some (.ref l2), some (.int l3)] [] h (some (.int z.1)) z.2) {h : mh_H} {l1 : Nat} {l2 : Nat} {l3 : Int32} (hq : D_L_law_1878 N L xs k18 h l1 l2 l3 = some z) : mh_go P d mL_law 1878 [some (.ref 1000000000), some (.ref l1), some (.ref l2), some (.int l3)] [] h (some (.int z.1)) z.2 := by
  unfold D_L_law_1878 at hq
  refine st_aload_n (pc := 1878) dL_law_1878 rfl ?_
  refine st_aload_n (pc := 1879) dL_law_1879 rfl ?_
  refine st_iload_n (pc := 1880) dL_law_1880 rfl ?_
  refine st_iconst (pc := 1881) (v := (1 : Int32)) dL_law_1881 rfl ?_
  refine st_iadd (pc := 1882) dL_law_1882 ?_
  refine bd_sld (pc := 1883) hq dL_law_1883 hE (fun hq => ?_)
  obtain ⟨⟨hbq1, hkq1⟩, hq⟩ := mh_oi hq
  obtain ⟨q1, e1, hq⟩ := mh_ob hq
  refine st_invV (pc := 1884) (ci := 11) (vs := [.int (xs (l3 + (1 : Int32)).toNatClampNeg)]) (rest := []) (st2 := [.int q1.1]) dL_law_1884 okX11_told (by decide) hkq1 hbq1 wd_1164 wd_1165 wd_1166 pdX11_told rfl rfl rfl rfl (Nat.le_trans (by decide) hd) (Nat.le_of_ble_eq_true rfl) (T_X11_told (Nat.le_refl _) e1) rfl ?_
  refine st_aload_n (pc := 1887) dL_law_1887 rfl ?_
  refine st_aload_n (pc := 1888) dL_law_1888 rfl ?_
  refine st_iload_n (pc := 1889) dL_law_1889 rfl ?_
  refine st_iconst (pc := 1890) (v := (1 : Int32)) dL_law_1890 rfl ?_
  refine st_iadd (pc := 1891) dL_law_1891 ?_
  refine bd_sld (pc := 1892) hq dL_law_1892 hE (fun hq => ?_)
  obtain ⟨⟨hbq2, hkq2⟩, hq⟩ := mh_oi hq
  obtain ⟨q2, e2, hq⟩ := mh_ob hq
  refine st_invV (pc := 1893) (ci := 12) (vs := [.int (xs (l3 + (1 : Int32)).toNatClampNeg)]) (rest := [.int q1.1]) (st2 := [.int q2.1, .int q1.1]) dL_law_1893 okX12_told (by decide) hkq2 hbq2 wd_1729 wd_1730 wd_1731 pdX12_told rfl rfl rfl rfl (Nat.le_trans (by decide) hd) (Nat.le_of_ble_eq_true rfl) (T_X12_told (Nat.le_refl _) e2) rfl ?_
  refine bd_icmp_eq (pc := 1896) (tgt := 1901) hq dL_law_1896 (by decide) (fun _ hq => ?_) (fun _ hq => ?_)
  ·
    exact T_L_law_1901 hd hE hk18 hq
  ·
    refine st_iconst (pc := 1899) (v := (0 : Int32)) dL_law_1899 rfl ?_
    exact bd_zret (pc := 1900) hq dL_law_1900 rfl
def D_L_law_18 (N : Nat) (L : Nat) (xs : Nat → Int32) : Nat → mh_H → Nat → Nat → Int32 → Option (Int32 × mh_H)
  | 0, _, _, _, _ => none
  | F + 1, h, l1, l2, l3 =>
    if ((Int32.ofNat L) - (6 : Int32)) < l3 then (zB (1 : Int32) h)
    else (sI L l3 <|
    if ((xs l3.toNatClampNeg) &&& (63 : Int32)) = 0 then (D_L_law_228 N L xs (D_L_law_18 N L xs F) h l1 l2 l3)
    else if ((xs l3.toNatClampNeg) &&& (63 : Int32)) = 1 then (D_L_law_271 N L xs (D_L_law_18 N L xs F) h l1 l2 l3)
    else if ((xs l3.toNatClampNeg) &&& (63 : Int32)) = 2 then (D_L_law_304 N L xs (D_L_law_18 N L xs F) h l1 l2 l3)
    else if ((xs l3.toNatClampNeg) &&& (63 : Int32)) = 3 then (D_L_law_357 N L xs (D_L_law_18 N L xs F) h l1 l2 l3)
    else if ((xs l3.toNatClampNeg) &&& (63 : Int32)) = 4 then (D_L_law_390 N L xs (D_L_law_18 N L xs F) h l1 l2 l3)
    else if ((xs l3.toNatClampNeg) &&& (63 : Int32)) = 5 then (D_L_law_423 N L xs (D_L_law_18 N L xs F) h l1 l2 l3)
    else if ((xs l3.toNatClampNeg) &&& (63 : Int32)) = 6 then (D_L_law_472 N L xs (D_L_law_18 N L xs F) h l1 l2 l3)
    else if ((xs l3.toNatClampNeg) &&& (63 : Int32)) = 7 then (D_L_law_505 N L xs (D_L_law_18 N L xs F) h l1 l2 l3)
    else if ((xs l3.toNatClampNeg) &&& (63 : Int32)) = 8 then (D_L_law_544 N L xs (D_L_law_18 N L xs F) h l1 l2 l3)
    else if ((xs l3.toNatClampNeg) &&& (63 : Int32)) = 9 then (D_L_law_577 N L xs (D_L_law_18 N L xs F) h l1 l2 l3)
    else if ((xs l3.toNatClampNeg) &&& (63 : Int32)) = 10 then (D_L_law_600 N L xs (D_L_law_18 N L xs F) h l1 l2 l3)
    else if ((xs l3.toNatClampNeg) &&& (63 : Int32)) = 11 then (D_L_law_643 N L xs (D_L_law_18 N L xs F) h l1 l2 l3)
    else if ((xs l3.toNatClampNeg) &&& (63 : Int32)) = 12 then (D_L_law_676 N L xs (D_L_law_18 N L xs F) h l1 l2 l3)
    else if ((xs l3.toNatClampNeg) &&& (63 : Int32)) = 13 then (D_L_law_739 N L xs (D_L_law_18 N L xs F) h l1 l2 l3)
    else if ((xs l3.toNatClampNeg) &&& (63 : Int32)) = 14 then (D_L_law_772 N L xs (D_L_law_18 N L xs F) h l1 l2 l3)
    else if ((xs l3.toNatClampNeg) &&& (63 : Int32)) = 15 then (D_L_law_805 N L xs (D_L_law_18 N L xs F) h l1 l2 l3)
    else if ((xs l3.toNatClampNeg) &&& (63 : Int32)) = 16 then (D_L_law_848 N L xs (D_L_law_18 N L xs F) h l1 l2 l3)
    else if ((xs l3.toNatClampNeg) &&& (63 : Int32)) = 17 then (D_L_law_901 N L xs (D_L_law_18 N L xs F) h l1 l2 l3)
    else if ((xs l3.toNatClampNeg) &&& (63 : Int32)) = 18 then (D_L_law_944 N L xs (D_L_law_18 N L xs F) h l1 l2 l3)
    else if ((xs l3.toNatClampNeg) &&& (63 : Int32)) = 19 then (D_L_law_1007 N L xs (D_L_law_18 N L xs F) h l1 l2 l3)
    else if ((xs l3.toNatClampNeg) &&& (63 : Int32)) = 20 then (D_L_law_1030 N L xs (D_L_law_18 N L xs F) h l1 l2 l3)
    else if ((xs l3.toNatClampNeg) &&& (63 : Int32)) = 21 then (D_L_law_1053 N L xs (D_L_law_18 N L xs F) h l1 l2 l3)
    else if ((xs l3.toNatClampNeg) &&& (63 : Int32)) = 22 then (D_L_law_1096 N L xs (D_L_law_18 N L xs F) h l1 l2 l3)
    else if ((xs l3.toNatClampNeg) &&& (63 : Int32)) = 23 then (D_L_law_1129 N L xs (D_L_law_18 N L xs F) h l1 l2 l3)
    else if ((xs l3.toNatClampNeg) &&& (63 : Int32)) = 24 then (D_L_law_1172 N L xs (D_L_law_18 N L xs F) h l1 l2 l3)
    else if ((xs l3.toNatClampNeg) &&& (63 : Int32)) = 25 then (D_L_law_1205 N L xs (D_L_law_18 N L xs F) h l1 l2 l3)
    else if ((xs l3.toNatClampNeg) &&& (63 : Int32)) = 26 then (D_L_law_1248 N L xs (D_L_law_18 N L xs F) h l1 l2 l3)
    else if ((xs l3.toNatClampNeg) &&& (63 : Int32)) = 27 then (D_L_law_1281 N L xs (D_L_law_18 N L xs F) h l1 l2 l3)
    else if ((xs l3.toNatClampNeg) &&& (63 : Int32)) = 28 then (D_L_law_1334 N L xs (D_L_law_18 N L xs F) h l1 l2 l3)
    else if ((xs l3.toNatClampNeg) &&& (63 : Int32)) = 29 then (D_L_law_1367 N L xs (D_L_law_18 N L xs F) h l1 l2 l3)
    else if ((xs l3.toNatClampNeg) &&& (63 : Int32)) = 30 then (D_L_law_1420 N L xs (D_L_law_18 N L xs F) h l1 l2 l3)
    else if ((xs l3.toNatClampNeg) &&& (63 : Int32)) = 31 then (D_L_law_1453 N L xs (D_L_law_18 N L xs F) h l1 l2 l3)
    else if ((xs l3.toNatClampNeg) &&& (63 : Int32)) = 32 then (D_L_law_1502 N L xs (D_L_law_18 N L xs F) h l1 l2 l3)
    else if ((xs l3.toNatClampNeg) &&& (63 : Int32)) = 33 then (D_L_law_1545 N L xs (D_L_law_18 N L xs F) h l1 l2 l3)
    else if ((xs l3.toNatClampNeg) &&& (63 : Int32)) = 34 then (D_L_law_1568 N L xs (D_L_law_18 N L xs F) h l1 l2 l3)
    else if ((xs l3.toNatClampNeg) &&& (63 : Int32)) = 35 then (D_L_law_1611 N L xs (D_L_law_18 N L xs F) h l1 l2 l3)
    else if ((xs l3.toNatClampNeg) &&& (63 : Int32)) = 36 then (D_L_law_1634 N L xs (D_L_law_18 N L xs F) h l1 l2 l3)
    else if ((xs l3.toNatClampNeg) &&& (63 : Int32)) = 37 then (D_L_law_1677 N L xs (D_L_law_18 N L xs F) h l1 l2 l3)
    else if ((xs l3.toNatClampNeg) &&& (63 : Int32)) = 38 then (D_L_law_1720 N L xs (D_L_law_18 N L xs F) h l1 l2 l3)
    else if ((xs l3.toNatClampNeg) &&& (63 : Int32)) = 39 then (D_L_law_1783 N L xs (D_L_law_18 N L xs F) h l1 l2 l3)
    else if ((xs l3.toNatClampNeg) &&& (63 : Int32)) = 40 then (D_L_law_1796 N L xs (D_L_law_18 N L xs F) h l1 l2 l3)
    else if ((xs l3.toNatClampNeg) &&& (63 : Int32)) = 41 then (D_L_law_1809 N L xs (D_L_law_18 N L xs F) h l1 l2 l3)
    else if ((xs l3.toNatClampNeg) &&& (63 : Int32)) = 42 then (D_L_law_1832 N L xs (D_L_law_18 N L xs F) h l1 l2 l3)
    else if ((xs l3.toNatClampNeg) &&& (63 : Int32)) = 43 then (D_L_law_1855 N L xs (D_L_law_18 N L xs F) h l1 l2 l3)
    else if ((xs l3.toNatClampNeg) &&& (63 : Int32)) = 44 then (D_L_law_1878 N L xs (D_L_law_18 N L xs F) h l1 l2 l3)
    else (D_L_law_1901 N L xs (D_L_law_18 N L xs F) h l1 l2 l3))
set_option maxHeartbeats 4000000 in
set_option maxRecDepth 100000 in
theorem T_L_law_18 {P : mh_E → Prop} {N d : Nat} (hd : 47 ≤ d) {L : Nat} {xs : Nat → Int32} (hE : ∀ E, P E → mh_L E = L ∧ mh_xs E = xs) {z : (Int32 × mh_H)} : ∀ (F : Nat) (h : mh_H) (l1 : Nat) (l2 : Nat) (l3 : Int32), D_L_law_18 N L xs F h l1 l2 l3 = some z → mh_go P d mL_law 18 [some (.ref 1000000000), some (.ref l1), some (.ref l2), some (.int l3)] [] h (some (.int z.1)) z.2 := by
  intro F
  induction F with
  | zero => intro h l1 l2 l3 hq; rw [D_L_law_18] at hq; cases hq
  | succ F ih =>
    intro h l1 l2 l3 hq
    rw [D_L_law_18] at hq
    refine st_iload_n (pc := 18) dL_law_18 rfl ?_
    refine st_aload_n (pc := 19) dL_law_19 rfl ?_
    refine st_slen (pc := 20) L dL_law_20 (fun E q => (hE E q).1) ?_
    refine st_bipush (pc := 21) (v := (6 : Int32)) dL_law_21 (by decide) ?_
    refine st_isub (pc := 23) dL_law_23 ?_
    refine bd_icmp_gt (pc := 24) (tgt := 1907) hq dL_law_24 (by decide) (fun _ hq => ?_) (fun _ hq => ?_)
    ·
      refine st_iconst (pc := 1907) (v := (1 : Int32)) dL_law_1907 rfl ?_
      exact bd_zret (pc := 1908) hq dL_law_1908 rfl
    ·
      refine st_aload_n (pc := 27) dL_law_27 rfl ?_
      refine st_iload_n (pc := 28) dL_law_28 rfl ?_
      refine bd_sld (pc := 29) hq dL_law_29 hE (fun hq => ?_)
      refine st_bipush (pc := 30) (v := (63 : Int32)) dL_law_30 (by decide) ?_
      refine st_iand (pc := 32) dL_law_32 ?_
      by_cases c0 : ((xs l3.toNatClampNeg) &&& (63 : Int32)) = 0
      ·
        rw [if_pos c0] at hq
        refine st_tin (pc := 33) (tgt := 228) dL_law_33 (by rw [c0]; decide) (by rw [c0]; decide) (by rw [c0]; rfl) (by decide) ?_
        exact T_L_law_228 hd hE ih hq
      ·
        rw [if_neg c0] at hq
        by_cases c1 : ((xs l3.toNatClampNeg) &&& (63 : Int32)) = 1
        ·
          rw [if_pos c1] at hq
          refine st_tin (pc := 33) (tgt := 271) dL_law_33 (by rw [c1]; decide) (by rw [c1]; decide) (by rw [c1]; rfl) (by decide) ?_
          exact T_L_law_271 hd hE ih hq
        ·
          rw [if_neg c1] at hq
          by_cases c2 : ((xs l3.toNatClampNeg) &&& (63 : Int32)) = 2
          ·
            rw [if_pos c2] at hq
            refine st_tin (pc := 33) (tgt := 304) dL_law_33 (by rw [c2]; decide) (by rw [c2]; decide) (by rw [c2]; rfl) (by decide) ?_
            exact T_L_law_304 hd hE ih hq
          ·
            rw [if_neg c2] at hq
            by_cases c3 : ((xs l3.toNatClampNeg) &&& (63 : Int32)) = 3
            ·
              rw [if_pos c3] at hq
              refine st_tin (pc := 33) (tgt := 357) dL_law_33 (by rw [c3]; decide) (by rw [c3]; decide) (by rw [c3]; rfl) (by decide) ?_
              exact T_L_law_357 hd hE ih hq
            ·
              rw [if_neg c3] at hq
              by_cases c4 : ((xs l3.toNatClampNeg) &&& (63 : Int32)) = 4
              ·
                rw [if_pos c4] at hq
                refine st_tin (pc := 33) (tgt := 390) dL_law_33 (by rw [c4]; decide) (by rw [c4]; decide) (by rw [c4]; rfl) (by decide) ?_
                exact T_L_law_390 hd hE ih hq
              ·
                rw [if_neg c4] at hq
                by_cases c5 : ((xs l3.toNatClampNeg) &&& (63 : Int32)) = 5
                ·
                  rw [if_pos c5] at hq
                  refine st_tin (pc := 33) (tgt := 423) dL_law_33 (by rw [c5]; decide) (by rw [c5]; decide) (by rw [c5]; rfl) (by decide) ?_
                  exact T_L_law_423 hd hE ih hq
                ·
                  rw [if_neg c5] at hq
                  by_cases c6 : ((xs l3.toNatClampNeg) &&& (63 : Int32)) = 6
                  ·
                    rw [if_pos c6] at hq
                    refine st_tin (pc := 33) (tgt := 472) dL_law_33 (by rw [c6]; decide) (by rw [c6]; decide) (by rw [c6]; rfl) (by decide) ?_
                    exact T_L_law_472 hd hE ih hq
                  ·
                    rw [if_neg c6] at hq
                    by_cases c7 : ((xs l3.toNatClampNeg) &&& (63 : Int32)) = 7
                    ·
                      rw [if_pos c7] at hq
                      refine st_tin (pc := 33) (tgt := 505) dL_law_33 (by rw [c7]; decide) (by rw [c7]; decide) (by rw [c7]; rfl) (by decide) ?_
                      exact T_L_law_505 hd hE ih hq
                    ·
                      rw [if_neg c7] at hq
                      by_cases c8 : ((xs l3.toNatClampNeg) &&& (63 : Int32)) = 8
                      ·
                        rw [if_pos c8] at hq
                        refine st_tin (pc := 33) (tgt := 544) dL_law_33 (by rw [c8]; decide) (by rw [c8]; decide) (by rw [c8]; rfl) (by decide) ?_
                        exact T_L_law_544 hd hE ih hq
                      ·
                        rw [if_neg c8] at hq
                        by_cases c9 : ((xs l3.toNatClampNeg) &&& (63 : Int32)) = 9
                        ·
                          rw [if_pos c9] at hq
                          refine st_tin (pc := 33) (tgt := 577) dL_law_33 (by rw [c9]; decide) (by rw [c9]; decide) (by rw [c9]; rfl) (by decide) ?_
                          exact T_L_law_577 hd hE ih hq
                        ·
                          rw [if_neg c9] at hq
                          by_cases c10 : ((xs l3.toNatClampNeg) &&& (63 : Int32)) = 10
                          ·
                            rw [if_pos c10] at hq
                            refine st_tin (pc := 33) (tgt := 600) dL_law_33 (by rw [c10]; decide) (by rw [c10]; decide) (by rw [c10]; rfl) (by decide) ?_
                            exact T_L_law_600 hd hE ih hq
                          ·
                            rw [if_neg c10] at hq
                            by_cases c11 : ((xs l3.toNatClampNeg) &&& (63 : Int32)) = 11
                            ·
                              rw [if_pos c11] at hq
                              refine st_tin (pc := 33) (tgt := 643) dL_law_33 (by rw [c11]; decide) (by rw [c11]; decide) (by rw [c11]; rfl) (by decide) ?_
                              exact T_L_law_643 hd hE ih hq
                            ·
                              rw [if_neg c11] at hq
                              by_cases c12 : ((xs l3.toNatClampNeg) &&& (63 : Int32)) = 12
                              ·
                                rw [if_pos c12] at hq
                                refine st_tin (pc := 33) (tgt := 676) dL_law_33 (by rw [c12]; decide) (by rw [c12]; decide) (by rw [c12]; rfl) (by decide) ?_
                                exact T_L_law_676 hd hE ih hq
                              ·
                                rw [if_neg c12] at hq
                                by_cases c13 : ((xs l3.toNatClampNeg) &&& (63 : Int32)) = 13
                                ·
                                  rw [if_pos c13] at hq
                                  refine st_tin (pc := 33) (tgt := 739) dL_law_33 (by rw [c13]; decide) (by rw [c13]; decide) (by rw [c13]; rfl) (by decide) ?_
                                  exact T_L_law_739 hd hE ih hq
                                ·
                                  rw [if_neg c13] at hq
                                  by_cases c14 : ((xs l3.toNatClampNeg) &&& (63 : Int32)) = 14
                                  ·
                                    rw [if_pos c14] at hq
                                    refine st_tin (pc := 33) (tgt := 772) dL_law_33 (by rw [c14]; decide) (by rw [c14]; decide) (by rw [c14]; rfl) (by decide) ?_
                                    exact T_L_law_772 hd hE ih hq
                                  ·
                                    rw [if_neg c14] at hq
                                    by_cases c15 : ((xs l3.toNatClampNeg) &&& (63 : Int32)) = 15
                                    ·
                                      rw [if_pos c15] at hq
                                      refine st_tin (pc := 33) (tgt := 805) dL_law_33 (by rw [c15]; decide) (by rw [c15]; decide) (by rw [c15]; rfl) (by decide) ?_
                                      exact T_L_law_805 hd hE ih hq
                                    ·
                                      rw [if_neg c15] at hq
                                      by_cases c16 : ((xs l3.toNatClampNeg) &&& (63 : Int32)) = 16
                                      ·
                                        rw [if_pos c16] at hq
                                        refine st_tin (pc := 33) (tgt := 848) dL_law_33 (by rw [c16]; decide) (by rw [c16]; decide) (by rw [c16]; rfl) (by decide) ?_
                                        exact T_L_law_848 hd hE ih hq
                                      ·
                                        rw [if_neg c16] at hq
                                        by_cases c17 : ((xs l3.toNatClampNeg) &&& (63 : Int32)) = 17
                                        ·
                                          rw [if_pos c17] at hq
                                          refine st_tin (pc := 33) (tgt := 901) dL_law_33 (by rw [c17]; decide) (by rw [c17]; decide) (by rw [c17]; rfl) (by decide) ?_
                                          exact T_L_law_901 hd hE ih hq
                                        ·
                                          rw [if_neg c17] at hq
                                          by_cases c18 : ((xs l3.toNatClampNeg) &&& (63 : Int32)) = 18
                                          ·
                                            rw [if_pos c18] at hq
                                            refine st_tin (pc := 33) (tgt := 944) dL_law_33 (by rw [c18]; decide) (by rw [c18]; decide) (by rw [c18]; rfl) (by decide) ?_
                                            exact T_L_law_944 hd hE ih hq
                                          ·
                                            rw [if_neg c18] at hq
                                            by_cases c19 : ((xs l3.toNatClampNeg) &&& (63 : Int32)) = 19
                                            ·
                                              rw [if_pos c19] at hq
                                              refine st_tin (pc := 33) (tgt := 1007) dL_law_33 (by rw [c19]; decide) (by rw [c19]; decide) (by rw [c19]; rfl) (by decide) ?_
                                              exact T_L_law_1007 hd hE ih hq
                                            ·
                                              rw [if_neg c19] at hq
                                              by_cases c20 : ((xs l3.toNatClampNeg) &&& (63 : Int32)) = 20
                                              ·
                                                rw [if_pos c20] at hq
                                                refine st_tin (pc := 33) (tgt := 1030) dL_law_33 (by rw [c20]; decide) (by rw [c20]; decide) (by rw [c20]; rfl) (by decide) ?_
                                                exact T_L_law_1030 hd hE ih hq
                                              ·
                                                rw [if_neg c20] at hq
                                                by_cases c21 : ((xs l3.toNatClampNeg) &&& (63 : Int32)) = 21
                                                ·
                                                  rw [if_pos c21] at hq
                                                  refine st_tin (pc := 33) (tgt := 1053) dL_law_33 (by rw [c21]; decide) (by rw [c21]; decide) (by rw [c21]; rfl) (by decide) ?_
                                                  exact T_L_law_1053 hd hE ih hq
                                                ·
                                                  rw [if_neg c21] at hq
                                                  by_cases c22 : ((xs l3.toNatClampNeg) &&& (63 : Int32)) = 22
                                                  ·
                                                    rw [if_pos c22] at hq
                                                    refine st_tin (pc := 33) (tgt := 1096) dL_law_33 (by rw [c22]; decide) (by rw [c22]; decide) (by rw [c22]; rfl) (by decide) ?_
                                                    exact T_L_law_1096 hd hE ih hq
                                                  ·
                                                    rw [if_neg c22] at hq
                                                    by_cases c23 : ((xs l3.toNatClampNeg) &&& (63 : Int32)) = 23
                                                    ·
                                                      rw [if_pos c23] at hq
                                                      refine st_tin (pc := 33) (tgt := 1129) dL_law_33 (by rw [c23]; decide) (by rw [c23]; decide) (by rw [c23]; rfl) (by decide) ?_
                                                      exact T_L_law_1129 hd hE ih hq
                                                    ·
                                                      rw [if_neg c23] at hq
                                                      by_cases c24 : ((xs l3.toNatClampNeg) &&& (63 : Int32)) = 24
                                                      ·
                                                        rw [if_pos c24] at hq
                                                        refine st_tin (pc := 33) (tgt := 1172) dL_law_33 (by rw [c24]; decide) (by rw [c24]; decide) (by rw [c24]; rfl) (by decide) ?_
                                                        exact T_L_law_1172 hd hE ih hq
                                                      ·
                                                        rw [if_neg c24] at hq
                                                        by_cases c25 : ((xs l3.toNatClampNeg) &&& (63 : Int32)) = 25
                                                        ·
                                                          rw [if_pos c25] at hq
                                                          refine st_tin (pc := 33) (tgt := 1205) dL_law_33 (by rw [c25]; decide) (by rw [c25]; decide) (by rw [c25]; rfl) (by decide) ?_
                                                          exact T_L_law_1205 hd hE ih hq
                                                        ·
                                                          rw [if_neg c25] at hq
                                                          by_cases c26 : ((xs l3.toNatClampNeg) &&& (63 : Int32)) = 26
                                                          ·
                                                            rw [if_pos c26] at hq
                                                            refine st_tin (pc := 33) (tgt := 1248) dL_law_33 (by rw [c26]; decide) (by rw [c26]; decide) (by rw [c26]; rfl) (by decide) ?_
                                                            exact T_L_law_1248 hd hE ih hq
                                                          ·
                                                            rw [if_neg c26] at hq
                                                            by_cases c27 : ((xs l3.toNatClampNeg) &&& (63 : Int32)) = 27
                                                            ·
                                                              rw [if_pos c27] at hq
                                                              refine st_tin (pc := 33) (tgt := 1281) dL_law_33 (by rw [c27]; decide) (by rw [c27]; decide) (by rw [c27]; rfl) (by decide) ?_
                                                              exact T_L_law_1281 hd hE ih hq
                                                            ·
                                                              rw [if_neg c27] at hq
                                                              by_cases c28 : ((xs l3.toNatClampNeg) &&& (63 : Int32)) = 28
                                                              ·
                                                                rw [if_pos c28] at hq
                                                                refine st_tin (pc := 33) (tgt := 1334) dL_law_33 (by rw [c28]; decide) (by rw [c28]; decide) (by rw [c28]; rfl) (by decide) ?_
                                                                exact T_L_law_1334 hd hE ih hq
                                                              ·
                                                                rw [if_neg c28] at hq
                                                                by_cases c29 : ((xs l3.toNatClampNeg) &&& (63 : Int32)) = 29
                                                                ·
                                                                  rw [if_pos c29] at hq
                                                                  refine st_tin (pc := 33) (tgt := 1367) dL_law_33 (by rw [c29]; decide) (by rw [c29]; decide) (by rw [c29]; rfl) (by decide) ?_
                                                                  exact T_L_law_1367 hd hE ih hq
                                                                ·
                                                                  rw [if_neg c29] at hq
                                                                  by_cases c30 : ((xs l3.toNatClampNeg) &&& (63 : Int32)) = 30
                                                                  ·
                                                                    rw [if_pos c30] at hq
                                                                    refine st_tin (pc := 33) (tgt := 1420) dL_law_33 (by rw [c30]; decide) (by rw [c30]; decide) (by rw [c30]; rfl) (by decide) ?_
                                                                    exact T_L_law_1420 hd hE ih hq
                                                                  ·
                                                                    rw [if_neg c30] at hq
                                                                    by_cases c31 : ((xs l3.toNatClampNeg) &&& (63 : Int32)) = 31
                                                                    ·
                                                                      rw [if_pos c31] at hq
                                                                      refine st_tin (pc := 33) (tgt := 1453) dL_law_33 (by rw [c31]; decide) (by rw [c31]; decide) (by rw [c31]; rfl) (by decide) ?_
                                                                      exact T_L_law_1453 hd hE ih hq
                                                                    ·
                                                                      rw [if_neg c31] at hq
                                                                      by_cases c32 : ((xs l3.toNatClampNeg) &&& (63 : Int32)) = 32
                                                                      ·
                                                                        rw [if_pos c32] at hq
                                                                        refine st_tin (pc := 33) (tgt := 1502) dL_law_33 (by rw [c32]; decide) (by rw [c32]; decide) (by rw [c32]; rfl) (by decide) ?_
                                                                        exact T_L_law_1502 hd hE ih hq
                                                                      ·
                                                                        rw [if_neg c32] at hq
                                                                        by_cases c33 : ((xs l3.toNatClampNeg) &&& (63 : Int32)) = 33
                                                                        ·
                                                                          rw [if_pos c33] at hq
                                                                          refine st_tin (pc := 33) (tgt := 1545) dL_law_33 (by rw [c33]; decide) (by rw [c33]; decide) (by rw [c33]; rfl) (by decide) ?_
                                                                          exact T_L_law_1545 hd hE ih hq
                                                                        ·
                                                                          rw [if_neg c33] at hq
                                                                          by_cases c34 : ((xs l3.toNatClampNeg) &&& (63 : Int32)) = 34
                                                                          ·
                                                                            rw [if_pos c34] at hq
                                                                            refine st_tin (pc := 33) (tgt := 1568) dL_law_33 (by rw [c34]; decide) (by rw [c34]; decide) (by rw [c34]; rfl) (by decide) ?_
                                                                            exact T_L_law_1568 hd hE ih hq
                                                                          ·
                                                                            rw [if_neg c34] at hq
                                                                            by_cases c35 : ((xs l3.toNatClampNeg) &&& (63 : Int32)) = 35
                                                                            ·
                                                                              rw [if_pos c35] at hq
                                                                              refine st_tin (pc := 33) (tgt := 1611) dL_law_33 (by rw [c35]; decide) (by rw [c35]; decide) (by rw [c35]; rfl) (by decide) ?_
                                                                              exact T_L_law_1611 hd hE ih hq
                                                                            ·
                                                                              rw [if_neg c35] at hq
                                                                              by_cases c36 : ((xs l3.toNatClampNeg) &&& (63 : Int32)) = 36
                                                                              ·
                                                                                rw [if_pos c36] at hq
                                                                                refine st_tin (pc := 33) (tgt := 1634) dL_law_33 (by rw [c36]; decide) (by rw [c36]; decide) (by rw [c36]; rfl) (by decide) ?_
                                                                                exact T_L_law_1634 hd hE ih hq
                                                                              ·
                                                                                rw [if_neg c36] at hq
                                                                                by_cases c37 : ((xs l3.toNatClampNeg) &&& (63 : Int32)) = 37
                                                                                ·
                                                                                  rw [if_pos c37] at hq
                                                                                  refine st_tin (pc := 33) (tgt := 1677) dL_law_33 (by rw [c37]; decide) (by rw [c37]; decide) (by rw [c37]; rfl) (by decide) ?_
                                                                                  exact T_L_law_1677 hd hE ih hq
                                                                                ·
                                                                                  rw [if_neg c37] at hq
                                                                                  by_cases c38 : ((xs l3.toNatClampNeg) &&& (63 : Int32)) = 38
                                                                                  ·
                                                                                    rw [if_pos c38] at hq
                                                                                    refine st_tin (pc := 33) (tgt := 1720) dL_law_33 (by rw [c38]; decide) (by rw [c38]; decide) (by rw [c38]; rfl) (by decide) ?_
                                                                                    exact T_L_law_1720 hd hE ih hq
                                                                                  ·
                                                                                    rw [if_neg c38] at hq
                                                                                    by_cases c39 : ((xs l3.toNatClampNeg) &&& (63 : Int32)) = 39
                                                                                    ·
                                                                                      rw [if_pos c39] at hq
                                                                                      refine st_tin (pc := 33) (tgt := 1783) dL_law_33 (by rw [c39]; decide) (by rw [c39]; decide) (by rw [c39]; rfl) (by decide) ?_
                                                                                      exact T_L_law_1783 hd hE ih hq
                                                                                    ·
                                                                                      rw [if_neg c39] at hq
                                                                                      by_cases c40 : ((xs l3.toNatClampNeg) &&& (63 : Int32)) = 40
                                                                                      ·
                                                                                        rw [if_pos c40] at hq
                                                                                        refine st_tin (pc := 33) (tgt := 1796) dL_law_33 (by rw [c40]; decide) (by rw [c40]; decide) (by rw [c40]; rfl) (by decide) ?_
                                                                                        exact T_L_law_1796 hd hE ih hq
                                                                                      ·
                                                                                        rw [if_neg c40] at hq
                                                                                        by_cases c41 : ((xs l3.toNatClampNeg) &&& (63 : Int32)) = 41
                                                                                        ·
                                                                                          rw [if_pos c41] at hq
                                                                                          refine st_tin (pc := 33) (tgt := 1809) dL_law_33 (by rw [c41]; decide) (by rw [c41]; decide) (by rw [c41]; rfl) (by decide) ?_
                                                                                          exact T_L_law_1809 hd hE ih hq
                                                                                        ·
                                                                                          rw [if_neg c41] at hq
                                                                                          by_cases c42 : ((xs l3.toNatClampNeg) &&& (63 : Int32)) = 42
                                                                                          ·
                                                                                            rw [if_pos c42] at hq
                                                                                            refine st_tin (pc := 33) (tgt := 1832) dL_law_33 (by rw [c42]; decide) (by rw [c42]; decide) (by rw [c42]; rfl) (by decide) ?_
                                                                                            exact T_L_law_1832 hd hE ih hq
                                                                                          ·
                                                                                            rw [if_neg c42] at hq
                                                                                            by_cases c43 : ((xs l3.toNatClampNeg) &&& (63 : Int32)) = 43
                                                                                            ·
                                                                                              rw [if_pos c43] at hq
                                                                                              refine st_tin (pc := 33) (tgt := 1855) dL_law_33 (by rw [c43]; decide) (by rw [c43]; decide) (by rw [c43]; rfl) (by decide) ?_
                                                                                              exact T_L_law_1855 hd hE ih hq
                                                                                            ·
                                                                                              rw [if_neg c43] at hq
                                                                                              by_cases c44 : ((xs l3.toNatClampNeg) &&& (63 : Int32)) = 44
                                                                                              ·
                                                                                                rw [if_pos c44] at hq
                                                                                                refine st_tin (pc := 33) (tgt := 1878) dL_law_33 (by rw [c44]; decide) (by rw [c44]; decide) (by rw [c44]; rfl) (by decide) ?_
                                                                                                exact T_L_law_1878 hd hE ih hq
                                                                                              ·
                                                                                                rw [if_neg c44] at hq
                                                                                                refine st_tout (pc := 33) (tgt := 1901) dL_law_33 (by have e0 := lv_neT c0 (k := 0) (a := 0) (by decide); have e1 := lv_neT c1 (k := 1) (a := 1) (by decide); have e2 := lv_neT c2 (k := 2) (a := 2) (by decide); have e3 := lv_neT c3 (k := 3) (a := 3) (by decide); have e4 := lv_neT c4 (k := 4) (a := 4) (by decide); have e5 := lv_neT c5 (k := 5) (a := 5) (by decide); have e6 := lv_neT c6 (k := 6) (a := 6) (by decide); have e7 := lv_neT c7 (k := 7) (a := 7) (by decide); have e8 := lv_neT c8 (k := 8) (a := 8) (by decide); have e9 := lv_neT c9 (k := 9) (a := 9) (by decide); have e10 := lv_neT c10 (k := 10) (a := 10) (by decide); have e11 := lv_neT c11 (k := 11) (a := 11) (by decide); have e12 := lv_neT c12 (k := 12) (a := 12) (by decide); have e13 := lv_neT c13 (k := 13) (a := 13) (by decide); have e14 := lv_neT c14 (k := 14) (a := 14) (by decide); have e15 := lv_neT c15 (k := 15) (a := 15) (by decide); have e16 := lv_neT c16 (k := 16) (a := 16) (by decide); have e17 := lv_neT c17 (k := 17) (a := 17) (by decide); have e18 := lv_neT c18 (k := 18) (a := 18) (by decide); have e19 := lv_neT c19 (k := 19) (a := 19) (by decide); have e20 := lv_neT c20 (k := 20) (a := 20) (by decide); have e21 := lv_neT c21 (k := 21) (a := 21) (by decide); have e22 := lv_neT c22 (k := 22) (a := 22) (by decide); have e23 := lv_neT c23 (k := 23) (a := 23) (by decide); have e24 := lv_neT c24 (k := 24) (a := 24) (by decide); have e25 := lv_neT c25 (k := 25) (a := 25) (by decide); have e26 := lv_neT c26 (k := 26) (a := 26) (by decide); have e27 := lv_neT c27 (k := 27) (a := 27) (by decide); have e28 := lv_neT c28 (k := 28) (a := 28) (by decide); have e29 := lv_neT c29 (k := 29) (a := 29) (by decide); have e30 := lv_neT c30 (k := 30) (a := 30) (by decide); have e31 := lv_neT c31 (k := 31) (a := 31) (by decide); have e32 := lv_neT c32 (k := 32) (a := 32) (by decide); have e33 := lv_neT c33 (k := 33) (a := 33) (by decide); have e34 := lv_neT c34 (k := 34) (a := 34) (by decide); have e35 := lv_neT c35 (k := 35) (a := 35) (by decide); have e36 := lv_neT c36 (k := 36) (a := 36) (by decide); have e37 := lv_neT c37 (k := 37) (a := 37) (by decide); have e38 := lv_neT c38 (k := 38) (a := 38) (by decide); have e39 := lv_neT c39 (k := 39) (a := 39) (by decide); have e40 := lv_neT c40 (k := 40) (a := 40) (by decide); have e41 := lv_neT c41 (k := 41) (a := 41) (by decide); have e42 := lv_neT c42 (k := 42) (a := 42) (by decide); have e43 := lv_neT c43 (k := 43) (a := 43) (by decide); have e44 := lv_neT c44 (k := 44) (a := 44) (by decide); omega) (by decide) ?_
                                                                                                exact T_L_law_1901 hd hE ih hq
def D_L_law (N : Nat) (L : Nat) (xs : Nat → Int32) (h : mh_H) : Option (Int32 × mh_H) :=
  (nO h 11).bind fun h1 =>
  (D_X11_init N h1 (mh_n h)).bind fun q2 =>
  (nO q2 12).bind fun h3 =>
  (D_X12_init N h3 (mh_n q2)).bind fun q4 =>
  D_L_law_18 N L xs N q4 (mh_n h) (mh_n q2) (0 : Int32)
set_option maxHeartbeats 4000000 in
set_option maxRecDepth 100000 in
theorem T_L_law {P : mh_E → Prop} {N d : Nat} (hd : 47 ≤ d) {L : Nat} {xs : Nat → Int32} (hE : ∀ E, P E → mh_L E = L ∧ mh_xs E = xs) {z : (Int32 × mh_H)} {h : mh_H} (hq : D_L_law N L xs h = some z) : mh_go P d mL_law 0 [some (.ref 1000000000), none, none, none] [] h (some (.int z.1)) z.2 := by
  unfold D_L_law at hq
  refine bd_new (pc := 0) (ci := 11) hq dL_law_0 (by decide) wd_23 wd_24 wd_1 (fun h1 hq => ?_)
  refine st_dup (pc := 3) dL_law_3 rfl ?_
  obtain ⟨q2, e2, hq⟩ := mh_ob hq
  refine st_invI (pc := 4) (b := mh_n h) (vs := []) (rest := [.ref (mh_n h)]) (st2 := [.ref (mh_n h)]) dL_law_4 okX11_init wd_25 wd_26 rfl pdX11_init rfl rfl rfl rfl (Nat.le_trans (by decide) hd) (Nat.le_of_ble_eq_true rfl) (T_X11_init (Nat.le_refl _) e2) rfl ?_
  refine st_astore_n (pc := 7) (lv' := [some (.ref 1000000000), some (.ref (mh_n h)), none, none]) dL_law_7 rfl (by decide) rfl ?_
  refine bd_new (pc := 8) (ci := 12) hq dL_law_8 (by decide) wd_1168 wd_1169 wd_9 (fun h3 hq => ?_)
  refine st_dup (pc := 11) dL_law_11 rfl ?_
  obtain ⟨q4, e4, hq⟩ := mh_ob hq
  refine st_invI (pc := 12) (b := mh_n q2) (vs := []) (rest := [.ref (mh_n q2)]) (st2 := [.ref (mh_n q2)]) dL_law_12 okX12_init wd_1170 wd_1171 rfl pdX12_init rfl rfl rfl rfl (Nat.le_trans (by decide) hd) (Nat.le_of_ble_eq_true rfl) (T_X12_init (Nat.le_refl _) e4) rfl ?_
  refine st_astore_n (pc := 15) (lv' := [some (.ref 1000000000), some (.ref (mh_n h)), some (.ref (mh_n q2)), none]) dL_law_15 rfl (by decide) rfl ?_
  refine st_iconst (pc := 16) (v := (0 : Int32)) dL_law_16 rfl ?_
  refine st_istore_n (pc := 17) (lv' := [some (.ref 1000000000), some (.ref (mh_n h)), some (.ref (mh_n q2)), some (.int (0 : Int32))]) dL_law_17 rfl (by decide) rfl ?_
  exact T_L_law_18 hd hE N _ _ _ _ hq
