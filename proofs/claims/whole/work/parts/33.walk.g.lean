-- HoleWaterModel.rooms(II)I
theorem dX12_rooms_26 : decode cX12_rooms 26 = .ok (.aload_n 0, 1) := by decide +kernel
theorem dX12_rooms_27 : decode cX12_rooms 27 = .ok (.iconst 1, 1) := by decide +kernel
theorem dX12_rooms_28 : decode cX12_rooms 28 = .ok (.invokevirtual 80, 3) := by decide +kernel
theorem dX12_rooms_31 : decode cX12_rooms 31 = .ok (.ireturn, 1) := by decide +kernel
theorem dX12_rooms_41 : decode cX12_rooms 41 = .ok (.aload_n 0, 1) := by decide +kernel
theorem dX12_rooms_42 : decode cX12_rooms 42 = .ok (.iconst 5, 1) := by decide +kernel
theorem dX12_rooms_43 : decode cX12_rooms 43 = .ok (.invokevirtual 80, 3) := by decide +kernel
theorem dX12_rooms_46 : decode cX12_rooms 46 = .ok (.ireturn, 1) := by decide +kernel
theorem dX12_rooms_63 : decode cX12_rooms 63 = .ok (.aload_n 0, 1) := by decide +kernel
theorem dX12_rooms_64 : decode cX12_rooms 64 = .ok (.iconst 4, 1) := by decide +kernel
theorem dX12_rooms_65 : decode cX12_rooms 65 = .ok (.invokevirtual 80, 3) := by decide +kernel
theorem dX12_rooms_68 : decode cX12_rooms 68 = .ok (.ireturn, 1) := by decide +kernel
theorem dX12_rooms_180 : decode cX12_rooms 180 = .ok (.iand, 1) := by decide +kernel
theorem dX12_rooms_181 : decode cX12_rooms 181 = .ok (.istore 9, 2) := by decide +kernel
theorem dX12_rooms_183 : decode cX12_rooms 183 = .ok (.iinc 11 1, 3) := by decide +kernel
theorem dX12_rooms_186 : decode cX12_rooms 186 = .ok (.goto (-59), 3) := by decide +kernel
theorem dX12_rooms_189 : decode cX12_rooms 189 = .ok (.iinc 10 1, 3) := by decide +kernel
theorem dX12_rooms_192 : decode cX12_rooms 192 = .ok (.goto (-75), 3) := by decide +kernel
theorem dX12_rooms_127 : decode cX12_rooms 127 = .ok (.iload 11, 2) := by decide +kernel
theorem dX12_rooms_129 : decode cX12_rooms 129 = .ok (.iload 6, 2) := by decide +kernel
theorem dX12_rooms_131 : decode cX12_rooms 131 = .ok (.if_icmp .ge 58, 3) := by decide +kernel
theorem dX12_rooms_134 : decode cX12_rooms 134 = .ok (.iload 8, 2) := by decide +kernel
theorem dX12_rooms_136 : decode cX12_rooms 136 = .ok (.iload 10, 2) := by decide +kernel
theorem dX12_rooms_138 : decode cX12_rooms 138 = .ok (.ishr, 1) := by decide +kernel
theorem dX12_rooms_139 : decode cX12_rooms 139 = .ok (.iconst 1, 1) := by decide +kernel
theorem dX12_rooms_140 : decode cX12_rooms 140 = .ok (.iand, 1) := by decide +kernel
theorem dX12_rooms_141 : decode cX12_rooms 141 = .ok (.iconst 1, 1) := by decide +kernel
theorem dX12_rooms_142 : decode cX12_rooms 142 = .ok (.if_icmp .ne 47, 3) := by decide +kernel
theorem dX12_rooms_145 : decode cX12_rooms 145 = .ok (.iload 9, 2) := by decide +kernel
theorem dX12_rooms_147 : decode cX12_rooms 147 = .ok (.aload_n 0, 1) := by decide +kernel
theorem dX12_rooms_148 : decode cX12_rooms 148 = .ok (.aload_n 0, 1) := by decide +kernel
theorem dX12_rooms_149 : decode cX12_rooms 149 = .ok (.getfield 40, 3) := by decide +kernel
theorem dX12_rooms_152 : decode cX12_rooms 152 = .ok (.iload 10, 2) := by decide +kernel
theorem dX12_rooms_154 : decode cX12_rooms 154 = .ok (.iaload, 1) := by decide +kernel
theorem dX12_rooms_155 : decode cX12_rooms 155 = .ok (.aload_n 0, 1) := by decide +kernel
theorem dX12_rooms_156 : decode cX12_rooms 156 = .ok (.getfield 43, 3) := by decide +kernel
theorem dX12_rooms_159 : decode cX12_rooms 159 = .ok (.iload 11, 2) := by decide +kernel
theorem dX12_rooms_161 : decode cX12_rooms 161 = .ok (.iaload, 1) := by decide +kernel
theorem dX12_rooms_162 : decode cX12_rooms 162 = .ok (.iconst 0, 1) := by decide +kernel
theorem dX12_rooms_163 : decode cX12_rooms 163 = .ok (.invokevirtual 281, 3) := by decide +kernel
theorem dX12_rooms_166 : decode cX12_rooms 166 = .ok (.iconst 1, 1) := by decide +kernel
theorem dX12_rooms_167 : decode cX12_rooms 167 = .ok (.if_icmp .ne 12, 3) := by decide +kernel
theorem dX12_rooms_170 : decode cX12_rooms 170 = .ok (.iconst 1, 1) := by decide +kernel
theorem dX12_rooms_171 : decode cX12_rooms 171 = .ok (.iload 11, 2) := by decide +kernel
theorem dX12_rooms_173 : decode cX12_rooms 173 = .ok (.ishl, 1) := by decide +kernel
theorem dX12_rooms_174 : decode cX12_rooms 174 = .ok (.iconst (-1), 1) := by decide +kernel
theorem dX12_rooms_175 : decode cX12_rooms 175 = .ok (.ixor, 1) := by decide +kernel
theorem dX12_rooms_176 : decode cX12_rooms 176 = .ok (.goto 4, 3) := by decide +kernel
theorem dX12_rooms_179 : decode cX12_rooms 179 = .ok (.iconst (-1), 1) := by decide +kernel
theorem dX12_rooms_243 : decode cX12_rooms 243 = .ok (.ior, 1) := by decide +kernel
theorem dX12_rooms_244 : decode cX12_rooms 244 = .ok (.iastore, 1) := by decide +kernel
theorem dX12_rooms_245 : decode cX12_rooms 245 = .ok (.iinc 10 1, 3) := by decide +kernel
theorem dX12_rooms_248 : decode cX12_rooms 248 = .ok (.goto (-42), 3) := by decide +kernel
theorem dX12_rooms_206 : decode cX12_rooms 206 = .ok (.iload 10, 2) := by decide +kernel
theorem dX12_rooms_208 : decode cX12_rooms 208 = .ok (.iload 5, 2) := by decide +kernel
theorem dX12_rooms_210 : decode cX12_rooms 210 = .ok (.if_icmp .ge 41, 3) := by decide +kernel
theorem dX12_rooms_251 : decode cX12_rooms 251 = .ok (.iinc 8 1, 3) := by decide +kernel
theorem dX12_rooms_254 : decode cX12_rooms 254 = .ok (.goto (-157), 3) := by decide +kernel
theorem dX12_rooms_213 : decode cX12_rooms 213 = .ok (.aload_n 0, 1) := by decide +kernel
theorem dX12_rooms_214 : decode cX12_rooms 214 = .ok (.getfield 46, 3) := by decide +kernel
theorem dX12_rooms_217 : decode cX12_rooms 217 = .ok (.iload 8, 2) := by decide +kernel
theorem dX12_rooms_219 : decode cX12_rooms 219 = .ok (.dup2, 1) := by decide +kernel
theorem dX12_rooms_220 : decode cX12_rooms 220 = .ok (.iaload, 1) := by decide +kernel
theorem dX12_rooms_221 : decode cX12_rooms 221 = .ok (.iload 8, 2) := by decide +kernel
theorem dX12_rooms_223 : decode cX12_rooms 223 = .ok (.iload 10, 2) := by decide +kernel
theorem dX12_rooms_225 : decode cX12_rooms 225 = .ok (.ishr, 1) := by decide +kernel
theorem dX12_rooms_226 : decode cX12_rooms 226 = .ok (.iconst 1, 1) := by decide +kernel
theorem dX12_rooms_227 : decode cX12_rooms 227 = .ok (.iand, 1) := by decide +kernel
theorem dX12_rooms_228 : decode cX12_rooms 228 = .ok (.iconst 1, 1) := by decide +kernel
theorem dX12_rooms_229 : decode cX12_rooms 229 = .ok (.if_icmp .ne 13, 3) := by decide +kernel
theorem dX12_rooms_232 : decode cX12_rooms 232 = .ok (.iload 9, 2) := by decide +kernel
theorem dX12_rooms_234 : decode cX12_rooms 234 = .ok (.iconst 5, 1) := by decide +kernel
theorem dX12_rooms_235 : decode cX12_rooms 235 = .ok (.iload 10, 2) := by decide +kernel
theorem dX12_rooms_237 : decode cX12_rooms 237 = .ok (.imul, 1) := by decide +kernel
theorem dX12_rooms_238 : decode cX12_rooms 238 = .ok (.ishl, 1) := by decide +kernel
theorem dX12_rooms_239 : decode cX12_rooms 239 = .ok (.goto 4, 3) := by decide +kernel
theorem dX12_rooms_242 : decode cX12_rooms 242 = .ok (.iconst 0, 1) := by decide +kernel
theorem dX12_rooms_117 : decode cX12_rooms 117 = .ok (.iload 10, 2) := by decide +kernel
theorem dX12_rooms_119 : decode cX12_rooms 119 = .ok (.iload 5, 2) := by decide +kernel
theorem dX12_rooms_121 : decode cX12_rooms 121 = .ok (.if_icmp .ge 74, 3) := by decide +kernel
theorem dX12_rooms_195 : decode cX12_rooms 195 = .ok (.aload_n 0, 1) := by decide +kernel
theorem dX12_rooms_196 : decode cX12_rooms 196 = .ok (.getfield 46, 3) := by decide +kernel
theorem dX12_rooms_199 : decode cX12_rooms 199 = .ok (.iload 8, 2) := by decide +kernel
theorem dX12_rooms_201 : decode cX12_rooms 201 = .ok (.iconst 0, 1) := by decide +kernel
theorem dX12_rooms_202 : decode cX12_rooms 202 = .ok (.iastore, 1) := by decide +kernel
theorem dX12_rooms_203 : decode cX12_rooms 203 = .ok (.iconst 0, 1) := by decide +kernel
theorem dX12_rooms_204 : decode cX12_rooms 204 = .ok (.istore 10, 2) := by decide +kernel
theorem dX12_rooms_124 : decode cX12_rooms 124 = .ok (.iconst 0, 1) := by decide +kernel
theorem dX12_rooms_125 : decode cX12_rooms 125 = .ok (.istore 11, 2) := by decide +kernel
theorem dX12_rooms_315 : decode cX12_rooms 315 = .ok (.ior, 1) := by decide +kernel
theorem dX12_rooms_316 : decode cX12_rooms 316 = .ok (.istore 7, 2) := by decide +kernel
theorem dX12_rooms_318 : decode cX12_rooms 318 = .ok (.iinc 9 1, 3) := by decide +kernel
theorem dX12_rooms_321 : decode cX12_rooms 321 = .ok (.goto (-51), 3) := by decide +kernel
theorem dX12_rooms_270 : decode cX12_rooms 270 = .ok (.iload 9, 2) := by decide +kernel
theorem dX12_rooms_272 : decode cX12_rooms 272 = .ok (.iload 6, 2) := by decide +kernel
theorem dX12_rooms_274 : decode cX12_rooms 274 = .ok (.if_icmp .ge 50, 3) := by decide +kernel
theorem dX12_rooms_324 : decode cX12_rooms 324 = .ok (.iinc 8 1, 3) := by decide +kernel
theorem dX12_rooms_327 : decode cX12_rooms 327 = .ok (.goto (-67), 3) := by decide +kernel
theorem dX12_rooms_277 : decode cX12_rooms 277 = .ok (.iload 7, 2) := by decide +kernel
theorem dX12_rooms_279 : decode cX12_rooms 279 = .ok (.aload_n 0, 1) := by decide +kernel
theorem dX12_rooms_280 : decode cX12_rooms 280 = .ok (.aload_n 0, 1) := by decide +kernel
theorem dX12_rooms_281 : decode cX12_rooms 281 = .ok (.getfield 40, 3) := by decide +kernel
theorem dX12_rooms_284 : decode cX12_rooms 284 = .ok (.iload 8, 2) := by decide +kernel
theorem dX12_rooms_286 : decode cX12_rooms 286 = .ok (.iaload, 1) := by decide +kernel
theorem dX12_rooms_287 : decode cX12_rooms 287 = .ok (.aload_n 0, 1) := by decide +kernel
theorem dX12_rooms_288 : decode cX12_rooms 288 = .ok (.getfield 43, 3) := by decide +kernel
theorem dX12_rooms_291 : decode cX12_rooms 291 = .ok (.iload 9, 2) := by decide +kernel
theorem dX12_rooms_293 : decode cX12_rooms 293 = .ok (.iaload, 1) := by decide +kernel
theorem dX12_rooms_294 : decode cX12_rooms 294 = .ok (.iconst 0, 1) := by decide +kernel
theorem dX12_rooms_295 : decode cX12_rooms 295 = .ok (.invokevirtual 281, 3) := by decide +kernel
theorem dX12_rooms_298 : decode cX12_rooms 298 = .ok (.iconst 3, 1) := by decide +kernel
theorem dX12_rooms_299 : decode cX12_rooms 299 = .ok (.if_icmp .ne 15, 3) := by decide +kernel
theorem dX12_rooms_302 : decode cX12_rooms 302 = .ok (.iconst 1, 1) := by decide +kernel
theorem dX12_rooms_303 : decode cX12_rooms 303 = .ok (.iconst 5, 1) := by decide +kernel
theorem dX12_rooms_304 : decode cX12_rooms 304 = .ok (.iload 8, 2) := by decide +kernel
theorem dX12_rooms_306 : decode cX12_rooms 306 = .ok (.imul, 1) := by decide +kernel
theorem dX12_rooms_307 : decode cX12_rooms 307 = .ok (.iload 9, 2) := by decide +kernel
theorem dX12_rooms_309 : decode cX12_rooms 309 = .ok (.iadd, 1) := by decide +kernel
theorem dX12_rooms_310 : decode cX12_rooms 310 = .ok (.ishl, 1) := by decide +kernel
theorem dX12_rooms_311 : decode cX12_rooms 311 = .ok (.goto 4, 3) := by decide +kernel
theorem dX12_rooms_314 : decode cX12_rooms 314 = .ok (.iconst 0, 1) := by decide +kernel
theorem dX12_rooms_333 : decode cX12_rooms 333 = .ok (.aload_n 0, 1) := by decide +kernel
theorem dX12_rooms_334 : decode cX12_rooms 334 = .ok (.iload 7, 2) := by decide +kernel
theorem dX12_rooms_336 : decode cX12_rooms 336 = .ok (.iload 8, 2) := by decide +kernel
theorem dX12_rooms_338 : decode cX12_rooms 338 = .ok (.iconst 1, 1) := by decide +kernel
theorem dX12_rooms_339 : decode cX12_rooms 339 = .ok (.iload 5, 2) := by decide +kernel
theorem dX12_rooms_341 : decode cX12_rooms 341 = .ok (.ishl, 1) := by decide +kernel
theorem dX12_rooms_342 : decode cX12_rooms 342 = .ok (.invokevirtual 287, 3) := by decide +kernel
theorem dX12_rooms_345 : decode cX12_rooms 345 = .ok (.ifCond .ne 9, 3) := by decide +kernel
theorem dX12_rooms_348 : decode cX12_rooms 348 = .ok (.iinc 8 1, 3) := by decide +kernel
theorem dX12_rooms_351 : decode cX12_rooms 351 = .ok (.goto (-18), 3) := by decide +kernel
theorem dX12_rooms_354 : decode cX12_rooms 354 = .ok (.iload 8, 2) := by decide +kernel
theorem dX12_rooms_356 : decode cX12_rooms 356 = .ok (.ireturn, 1) := by decide +kernel
theorem dX12_rooms_260 : decode cX12_rooms 260 = .ok (.iload 8, 2) := by decide +kernel
theorem dX12_rooms_262 : decode cX12_rooms 262 = .ok (.iload 5, 2) := by decide +kernel
theorem dX12_rooms_264 : decode cX12_rooms 264 = .ok (.if_icmp .ge 66, 3) := by decide +kernel
theorem dX12_rooms_330 : decode cX12_rooms 330 = .ok (.iconst 0, 1) := by decide +kernel
theorem dX12_rooms_331 : decode cX12_rooms 331 = .ok (.istore 8, 2) := by decide +kernel
theorem dX12_rooms_267 : decode cX12_rooms 267 = .ok (.iconst 0, 1) := by decide +kernel
theorem dX12_rooms_268 : decode cX12_rooms 268 = .ok (.istore 9, 2) := by decide +kernel
theorem dX12_rooms_97 : decode cX12_rooms 97 = .ok (.iload 8, 2) := by decide +kernel
theorem dX12_rooms_99 : decode cX12_rooms 99 = .ok (.iconst 1, 1) := by decide +kernel
theorem dX12_rooms_100 : decode cX12_rooms 100 = .ok (.iload 5, 2) := by decide +kernel
theorem dX12_rooms_102 : decode cX12_rooms 102 = .ok (.ishl, 1) := by decide +kernel
theorem dX12_rooms_103 : decode cX12_rooms 103 = .ok (.if_icmp .ge 154, 3) := by decide +kernel
theorem dX12_rooms_257 : decode cX12_rooms 257 = .ok (.iconst 0, 1) := by decide +kernel
theorem dX12_rooms_258 : decode cX12_rooms 258 = .ok (.istore 8, 2) := by decide +kernel
theorem dX12_rooms_106 : decode cX12_rooms 106 = .ok (.iconst 1, 1) := by decide +kernel
theorem dX12_rooms_107 : decode cX12_rooms 107 = .ok (.iload 6, 2) := by decide +kernel
theorem dX12_rooms_109 : decode cX12_rooms 109 = .ok (.ishl, 1) := by decide +kernel
theorem dX12_rooms_110 : decode cX12_rooms 110 = .ok (.iconst 1, 1) := by decide +kernel
theorem dX12_rooms_111 : decode cX12_rooms 111 = .ok (.isub, 1) := by decide +kernel
theorem dX12_rooms_112 : decode cX12_rooms 112 = .ok (.istore 9, 2) := by decide +kernel
theorem dX12_rooms_114 : decode cX12_rooms 114 = .ok (.iconst 0, 1) := by decide +kernel
theorem dX12_rooms_115 : decode cX12_rooms 115 = .ok (.istore 10, 2) := by decide +kernel
theorem dX12_rooms_0 : decode cX12_rooms 0 = .ok (.aload_n 0, 1) := by decide +kernel
theorem dX12_rooms_1 : decode cX12_rooms 1 = .ok (.iload_n 1, 1) := by decide +kernel
theorem dX12_rooms_2 : decode cX12_rooms 2 = .ok (.iconst 0, 1) := by decide +kernel
theorem dX12_rooms_3 : decode cX12_rooms 3 = .ok (.invokevirtual 291, 3) := by decide +kernel
theorem dX12_rooms_6 : decode cX12_rooms 6 = .ok (.istore_n 3, 1) := by decide +kernel
theorem dX12_rooms_7 : decode cX12_rooms 7 = .ok (.aload_n 0, 1) := by decide +kernel
theorem dX12_rooms_8 : decode cX12_rooms 8 = .ok (.iload_n 2, 1) := by decide +kernel
theorem dX12_rooms_9 : decode cX12_rooms 9 = .ok (.iconst 2, 1) := by decide +kernel
theorem dX12_rooms_10 : decode cX12_rooms 10 = .ok (.invokevirtual 291, 3) := by decide +kernel
theorem dX12_rooms_13 : decode cX12_rooms 13 = .ok (.istore 4, 2) := by decide +kernel
theorem dX12_rooms_15 : decode cX12_rooms 15 = .ok (.iload_n 3, 1) := by decide +kernel
theorem dX12_rooms_16 : decode cX12_rooms 16 = .ok (.iconst 1, 1) := by decide +kernel
theorem dX12_rooms_17 : decode cX12_rooms 17 = .ok (.if_icmp .eq 9, 3) := by decide +kernel
theorem dX12_rooms_20 : decode cX12_rooms 20 = .ok (.iload 4, 2) := by decide +kernel
theorem dX12_rooms_22 : decode cX12_rooms 22 = .ok (.iconst 1, 1) := by decide +kernel
theorem dX12_rooms_23 : decode cX12_rooms 23 = .ok (.if_icmp .ne 9, 3) := by decide +kernel
theorem dX12_rooms_32 : decode cX12_rooms 32 = .ok (.iload_n 3, 1) := by decide +kernel
theorem dX12_rooms_33 : decode cX12_rooms 33 = .ok (.ifCond .ne 8, 3) := by decide +kernel
theorem dX12_rooms_36 : decode cX12_rooms 36 = .ok (.iload 4, 2) := by decide +kernel
theorem dX12_rooms_38 : decode cX12_rooms 38 = .ok (.ifCond .eq 9, 3) := by decide +kernel
theorem dX12_rooms_47 : decode cX12_rooms 47 = .ok (.iload_n 1, 1) := by decide +kernel
theorem dX12_rooms_48 : decode cX12_rooms 48 = .ok (.invokestatic 294, 3) := by decide +kernel
theorem dX12_rooms_51 : decode cX12_rooms 51 = .ok (.iconst 5, 1) := by decide +kernel
theorem dX12_rooms_52 : decode cX12_rooms 52 = .ok (.if_icmp .gt 11, 3) := by decide +kernel
theorem dX12_rooms_55 : decode cX12_rooms 55 = .ok (.iload_n 2, 1) := by decide +kernel
theorem dX12_rooms_56 : decode cX12_rooms 56 = .ok (.invokestatic 294, 3) := by decide +kernel
theorem dX12_rooms_59 : decode cX12_rooms 59 = .ok (.iconst 5, 1) := by decide +kernel
theorem dX12_rooms_60 : decode cX12_rooms 60 = .ok (.if_icmp .le 9, 3) := by decide +kernel
theorem dX12_rooms_69 : decode cX12_rooms 69 = .ok (.aload_n 0, 1) := by decide +kernel
theorem dX12_rooms_70 : decode cX12_rooms 70 = .ok (.iload_n 1, 1) := by decide +kernel
theorem dX12_rooms_71 : decode cX12_rooms 71 = .ok (.aload_n 0, 1) := by decide +kernel
theorem dX12_rooms_72 : decode cX12_rooms 72 = .ok (.getfield 40, 3) := by decide +kernel
theorem dX12_rooms_75 : decode cX12_rooms 75 = .ok (.invokevirtual 297, 3) := by decide +kernel
theorem dX12_rooms_78 : decode cX12_rooms 78 = .ok (.istore 5, 2) := by decide +kernel
theorem dX12_rooms_80 : decode cX12_rooms 80 = .ok (.aload_n 0, 1) := by decide +kernel
theorem dX12_rooms_81 : decode cX12_rooms 81 = .ok (.iload_n 2, 1) := by decide +kernel
theorem dX12_rooms_82 : decode cX12_rooms 82 = .ok (.aload_n 0, 1) := by decide +kernel
theorem dX12_rooms_83 : decode cX12_rooms 83 = .ok (.getfield 43, 3) := by decide +kernel
theorem dX12_rooms_86 : decode cX12_rooms 86 = .ok (.invokevirtual 297, 3) := by decide +kernel
theorem dX12_rooms_89 : decode cX12_rooms 89 = .ok (.istore 6, 2) := by decide +kernel
theorem dX12_rooms_91 : decode cX12_rooms 91 = .ok (.iconst 0, 1) := by decide +kernel
theorem dX12_rooms_92 : decode cX12_rooms 92 = .ok (.istore 7, 2) := by decide +kernel
theorem dX12_rooms_94 : decode cX12_rooms 94 = .ok (.iconst 0, 1) := by decide +kernel
theorem dX12_rooms_95 : decode cX12_rooms 95 = .ok (.istore 8, 2) := by decide +kernel
def D_X12_rooms_26 (N : Nat) (h : mh_H) (l0 : Nat) : Option (Int32 × mh_H) :=
  kO h 12 l0 <|
  (D_X12_error N h l0 (1 : Int32)).bind fun q1 =>
  some (q1.1, q1.2)
set_option maxHeartbeats 4000000 in
set_option maxRecDepth 100000 in
theorem T_X12_rooms_26 {P : mh_E → Prop} {N d : Nat} (hd : 14 ≤ d) {z : (Int32 × mh_H)} {h : mh_H} {l0 : Nat} (hq : D_X12_rooms_26 N h l0 = some z) : mh_go P d mX12_rooms 26 [some (.ref l0), none, none, none, none, none, none, none, none, none, none, none] [] h (some (.int z.1)) z.2 := by
  unfold D_X12_rooms_26 at hq
  refine st_aload_n (pc := 26) dX12_rooms_26 rfl ?_
  refine st_iconst (pc := 27) (v := (1 : Int32)) dX12_rooms_27 rfl ?_
  obtain ⟨⟨hbq1, hkq1⟩, hq⟩ := mh_oi hq
  obtain ⟨q1, e1, hq⟩ := mh_ob hq
  refine st_invV (pc := 28) (ci := 12) (vs := [.int (1 : Int32)]) (rest := []) (st2 := [.int q1.1]) dX12_rooms_28 okX12_error (by decide) hkq1 hbq1 wd_1274 wd_1276 wp_37 pdX12_error rfl rfl rfl rfl (Nat.le_trans (by decide) hd) (Nat.le_of_ble_eq_true rfl) (T_X12_error (Nat.le_refl _) e1) rfl ?_
  exact bd_iret (pc := 31) hq dX12_rooms_31 rfl
def D_X12_rooms_41 (N : Nat) (h : mh_H) (l0 : Nat) : Option (Int32 × mh_H) :=
  kO h 12 l0 <|
  (D_X12_error N h l0 (5 : Int32)).bind fun q1 =>
  some (q1.1, q1.2)
set_option maxHeartbeats 4000000 in
set_option maxRecDepth 100000 in
theorem T_X12_rooms_41 {P : mh_E → Prop} {N d : Nat} (hd : 14 ≤ d) {z : (Int32 × mh_H)} {h : mh_H} {l0 : Nat} (hq : D_X12_rooms_41 N h l0 = some z) : mh_go P d mX12_rooms 41 [some (.ref l0), none, none, none, none, none, none, none, none, none, none, none] [] h (some (.int z.1)) z.2 := by
  unfold D_X12_rooms_41 at hq
  refine st_aload_n (pc := 41) dX12_rooms_41 rfl ?_
  refine st_iconst (pc := 42) (v := (5 : Int32)) dX12_rooms_42 rfl ?_
  obtain ⟨⟨hbq1, hkq1⟩, hq⟩ := mh_oi hq
  obtain ⟨q1, e1, hq⟩ := mh_ob hq
  refine st_invV (pc := 43) (ci := 12) (vs := [.int (5 : Int32)]) (rest := []) (st2 := [.int q1.1]) dX12_rooms_43 okX12_error (by decide) hkq1 hbq1 wd_1274 wd_1276 wp_37 pdX12_error rfl rfl rfl rfl (Nat.le_trans (by decide) hd) (Nat.le_of_ble_eq_true rfl) (T_X12_error (Nat.le_refl _) e1) rfl ?_
  exact bd_iret (pc := 46) hq dX12_rooms_46 rfl
def D_X12_rooms_63 (N : Nat) (h : mh_H) (l0 : Nat) : Option (Int32 × mh_H) :=
  kO h 12 l0 <|
  (D_X12_error N h l0 (4 : Int32)).bind fun q1 =>
  some (q1.1, q1.2)
set_option maxHeartbeats 4000000 in
set_option maxRecDepth 100000 in
theorem T_X12_rooms_63 {P : mh_E → Prop} {N d : Nat} (hd : 14 ≤ d) {z : (Int32 × mh_H)} {h : mh_H} {l0 : Nat} (hq : D_X12_rooms_63 N h l0 = some z) : mh_go P d mX12_rooms 63 [some (.ref l0), none, none, none, none, none, none, none, none, none, none, none] [] h (some (.int z.1)) z.2 := by
  unfold D_X12_rooms_63 at hq
  refine st_aload_n (pc := 63) dX12_rooms_63 rfl ?_
  refine st_iconst (pc := 64) (v := (4 : Int32)) dX12_rooms_64 rfl ?_
  obtain ⟨⟨hbq1, hkq1⟩, hq⟩ := mh_oi hq
  obtain ⟨q1, e1, hq⟩ := mh_ob hq
  refine st_invV (pc := 65) (ci := 12) (vs := [.int (4 : Int32)]) (rest := []) (st2 := [.int q1.1]) dX12_rooms_65 okX12_error (by decide) hkq1 hbq1 wd_1274 wd_1276 wp_37 pdX12_error rfl rfl rfl rfl (Nat.le_trans (by decide) hd) (Nat.le_of_ble_eq_true rfl) (T_X12_error (Nat.le_refl _) e1) rfl ?_
  exact bd_iret (pc := 68) hq dX12_rooms_68 rfl
def D_X12_rooms_180 (N : Nat) (k97 : mh_H → Nat → Int32 → Int32 → Int32 → Int32 → Option (Int32 × mh_H)) (k117 : mh_H → Nat → Int32 → Int32 → Int32 → Int32 → Int32 → Int32 → Option (Int32 × mh_H)) (k127 : mh_H → Nat → Int32 → Int32 → Int32 → Int32 → Int32 → Int32 → Int32 → Option (Int32 × mh_H)) (h : mh_H) (l0 : Nat) (l5 : Int32) (l6 : Int32) (l7 : Int32) (l8 : Int32) (l10 : Int32) (l11 : Int32) (s0 : Int32) (s1 : Int32) : Option (Int32 × mh_H) :=
  k127 h l0 l5 l6 l7 l8 (s0 &&& s1) l10 (l11 + Int32.ofInt (1))
set_option maxHeartbeats 4000000 in
set_option maxRecDepth 100000 in
theorem T_X12_rooms_180 {P : mh_E → Prop} {N d : Nat} (hd : 14 ≤ d) {z : (Int32 × mh_H)} {k97 : mh_H → Nat → Int32 → Int32 → Int32 → Int32 → Option (Int32 × mh_H)} (hk97 : ∀ (h : mh_H) (l0 : Nat) (l5 : Int32) (l6 : Int32) (l7 : Int32) (l8 : Int32), k97 h l0 l5 l6 l7 l8 = some z → mh_go P d mX12_rooms 97 [some (.ref l0), none, none, none, none, some (.int l5), some (.int l6), some (.int l7), some (.int l8), none, none, none] [] h (some (.int z.1)) z.2) {k117 : mh_H → Nat → Int32 → Int32 → Int32 → Int32 → Int32 → Int32 → Option (Int32 × mh_H)} (hk117 : ∀ (h : mh_H) (l0 : Nat) (l5 : Int32) (l6 : Int32) (l7 : Int32) (l8 : Int32) (l9 : Int32) (l10 : Int32), k117 h l0 l5 l6 l7 l8 l9 l10 = some z → mh_go P d mX12_rooms 117 [some (.ref l0), none, none, none, none, some (.int l5), some (.int l6), some (.int l7), some (.int l8), some (.int l9), some (.int l10), none] [] h (some (.int z.1)) z.2) {k127 : mh_H → Nat → Int32 → Int32 → Int32 → Int32 → Int32 → Int32 → Int32 → Option (Int32 × mh_H)} (hk127 : ∀ (h : mh_H) (l0 : Nat) (l5 : Int32) (l6 : Int32) (l7 : Int32) (l8 : Int32) (l9 : Int32) (l10 : Int32) (l11 : Int32), k127 h l0 l5 l6 l7 l8 l9 l10 l11 = some z → mh_go P d mX12_rooms 127 [some (.ref l0), none, none, none, none, some (.int l5), some (.int l6), some (.int l7), some (.int l8), some (.int l9), some (.int l10), some (.int l11)] [] h (some (.int z.1)) z.2) {h : mh_H} {l0 : Nat} {l5 : Int32} {l6 : Int32} {l7 : Int32} {l8 : Int32} {l10 : Int32} {l11 : Int32} {s0 : Int32} {s1 : Int32} (hq : D_X12_rooms_180 N k97 k117 k127 h l0 l5 l6 l7 l8 l10 l11 s0 s1 = some z) : mh_go P d mX12_rooms 180 [some (.ref l0), none, none, none, none, some (.int l5), some (.int l6), some (.int l7), some (.int l8), none, some (.int l10), some (.int l11)] [.int s1, .int s0] h (some (.int z.1)) z.2 := by
  unfold D_X12_rooms_180 at hq
  refine st_iand (pc := 180) dX12_rooms_180 ?_
  refine st_istore (pc := 181) (lv' := [some (.ref l0), none, none, none, none, some (.int l5), some (.int l6), some (.int l7), some (.int l8), some (.int (s0 &&& s1)), some (.int l10), some (.int l11)]) dX12_rooms_181 rfl (by decide) rfl ?_
  refine st_iinc (pc := 183) (lv' := [some (.ref l0), none, none, none, none, some (.int l5), some (.int l6), some (.int l7), some (.int l8), some (.int (s0 &&& s1)), some (.int l10), some (.int (l11 + Int32.ofInt (1)))]) dX12_rooms_183 rfl rfl (by decide) rfl ?_
  refine st_goto (pc := 186) (tgt := 127) dX12_rooms_186 (by decide) ?_
  exact hk127 _ _ _ _ _ _ _ _ _ hq
def D_X12_rooms_189 (N : Nat) (k97 : mh_H → Nat → Int32 → Int32 → Int32 → Int32 → Option (Int32 × mh_H)) (k117 : mh_H → Nat → Int32 → Int32 → Int32 → Int32 → Int32 → Int32 → Option (Int32 × mh_H)) (h : mh_H) (l0 : Nat) (l5 : Int32) (l6 : Int32) (l7 : Int32) (l8 : Int32) (l9 : Int32) (l10 : Int32) : Option (Int32 × mh_H) :=
  k117 h l0 l5 l6 l7 l8 l9 (l10 + Int32.ofInt (1))
set_option maxHeartbeats 4000000 in
set_option maxRecDepth 100000 in
theorem T_X12_rooms_189 {P : mh_E → Prop} {N d : Nat} (hd : 14 ≤ d) {z : (Int32 × mh_H)} {k97 : mh_H → Nat → Int32 → Int32 → Int32 → Int32 → Option (Int32 × mh_H)} (hk97 : ∀ (h : mh_H) (l0 : Nat) (l5 : Int32) (l6 : Int32) (l7 : Int32) (l8 : Int32), k97 h l0 l5 l6 l7 l8 = some z → mh_go P d mX12_rooms 97 [some (.ref l0), none, none, none, none, some (.int l5), some (.int l6), some (.int l7), some (.int l8), none, none, none] [] h (some (.int z.1)) z.2) {k117 : mh_H → Nat → Int32 → Int32 → Int32 → Int32 → Int32 → Int32 → Option (Int32 × mh_H)} (hk117 : ∀ (h : mh_H) (l0 : Nat) (l5 : Int32) (l6 : Int32) (l7 : Int32) (l8 : Int32) (l9 : Int32) (l10 : Int32), k117 h l0 l5 l6 l7 l8 l9 l10 = some z → mh_go P d mX12_rooms 117 [some (.ref l0), none, none, none, none, some (.int l5), some (.int l6), some (.int l7), some (.int l8), some (.int l9), some (.int l10), none] [] h (some (.int z.1)) z.2) {h : mh_H} {l0 : Nat} {l5 : Int32} {l6 : Int32} {l7 : Int32} {l8 : Int32} {l9 : Int32} {l10 : Int32} (hq : D_X12_rooms_189 N k97 k117 h l0 l5 l6 l7 l8 l9 l10 = some z) : mh_go P d mX12_rooms 189 [some (.ref l0), none, none, none, none, some (.int l5), some (.int l6), some (.int l7), some (.int l8), some (.int l9), some (.int l10), none] [] h (some (.int z.1)) z.2 := by
  unfold D_X12_rooms_189 at hq
  refine st_iinc (pc := 189) (lv' := [some (.ref l0), none, none, none, none, some (.int l5), some (.int l6), some (.int l7), some (.int l8), some (.int l9), some (.int (l10 + Int32.ofInt (1))), none]) dX12_rooms_189 rfl rfl (by decide) rfl ?_
  refine st_goto (pc := 192) (tgt := 117) dX12_rooms_192 (by decide) ?_
  exact hk117 _ _ _ _ _ _ _ _ hq
def D_X12_rooms_127 (N : Nat) (k97 : mh_H → Nat → Int32 → Int32 → Int32 → Int32 → Option (Int32 × mh_H)) (k117 : mh_H → Nat → Int32 → Int32 → Int32 → Int32 → Int32 → Int32 → Option (Int32 × mh_H)) : Nat → mh_H → Nat → Int32 → Int32 → Int32 → Int32 → Int32 → Int32 → Int32 → Option (Int32 × mh_H)
  | 0, _, _, _, _, _, _, _, _, _ => none
  | F + 1, h, l0, l5, l6, l7, l8, l9, l10, l11 =>
    if l6 ≤ l11 then (D_X12_rooms_189 N k97 k117 h l0 l5 l6 l7 l8 l9 l10)
    else (if ((l8 >>> (l10 &&& 31)) &&& (1 : Int32)) = (1 : Int32) then ((gR h 12 l0 17).bind fun v1 =>
    (aI h v1 l10).bind fun v2 =>
    (gR h 12 l0 18).bind fun v3 =>
    (aI h v3 l11).bind fun v4 =>
    kO h 12 l0 <|
    (D_X12_said N h l0 v2 v4 (0 : Int32)).bind fun q5 =>
    if q5.1 = (1 : Int32) then (D_X12_rooms_180 N k97 k117 (D_X12_rooms_127 N k97 k117 F) q5.2 l0 l5 l6 l7 l8 l10 l11 l9 (((1 : Int32) <<< (l11 &&& 31)) ^^^ (-1 : Int32)))
    else (D_X12_rooms_180 N k97 k117 (D_X12_rooms_127 N k97 k117 F) q5.2 l0 l5 l6 l7 l8 l10 l11 l9 (-1 : Int32)))
    else (D_X12_rooms_189 N k97 k117 h l0 l5 l6 l7 l8 l9 l10))
set_option maxHeartbeats 4000000 in
set_option maxRecDepth 100000 in
theorem T_X12_rooms_127 {P : mh_E → Prop} {N d : Nat} (hd : 14 ≤ d) {z : (Int32 × mh_H)} {k97 : mh_H → Nat → Int32 → Int32 → Int32 → Int32 → Option (Int32 × mh_H)} (hk97 : ∀ (h : mh_H) (l0 : Nat) (l5 : Int32) (l6 : Int32) (l7 : Int32) (l8 : Int32), k97 h l0 l5 l6 l7 l8 = some z → mh_go P d mX12_rooms 97 [some (.ref l0), none, none, none, none, some (.int l5), some (.int l6), some (.int l7), some (.int l8), none, none, none] [] h (some (.int z.1)) z.2) {k117 : mh_H → Nat → Int32 → Int32 → Int32 → Int32 → Int32 → Int32 → Option (Int32 × mh_H)} (hk117 : ∀ (h : mh_H) (l0 : Nat) (l5 : Int32) (l6 : Int32) (l7 : Int32) (l8 : Int32) (l9 : Int32) (l10 : Int32), k117 h l0 l5 l6 l7 l8 l9 l10 = some z → mh_go P d mX12_rooms 117 [some (.ref l0), none, none, none, none, some (.int l5), some (.int l6), some (.int l7), some (.int l8), some (.int l9), some (.int l10), none] [] h (some (.int z.1)) z.2) : ∀ (F : Nat) (h : mh_H) (l0 : Nat) (l5 : Int32) (l6 : Int32) (l7 : Int32) (l8 : Int32) (l9 : Int32) (l10 : Int32) (l11 : Int32), D_X12_rooms_127 N k97 k117 F h l0 l5 l6 l7 l8 l9 l10 l11 = some z → mh_go P d mX12_rooms 127 [some (.ref l0), none, none, none, none, some (.int l5), some (.int l6), some (.int l7), some (.int l8), some (.int l9), some (.int l10), some (.int l11)] [] h (some (.int z.1)) z.2 := by
  intro F
  induction F with
  | zero => intro h l0 l5 l6 l7 l8 l9 l10 l11 hq; rw [D_X12_rooms_127] at hq; cases hq
  | succ F ih =>
    intro h l0 l5 l6 l7 l8 l9 l10 l11 hq
    rw [D_X12_rooms_127] at hq
    refine st_iload (pc := 127) dX12_rooms_127 rfl ?_
    refine st_iload (pc := 129) dX12_rooms_129 rfl ?_
    refine bd_icmp_ge (pc := 131) (tgt := 189) hq dX12_rooms_131 (by decide) (fun _ hq => ?_) (fun _ hq => ?_)
    ·
      refine st_lesS (lv' := [some (.ref l0), none, none, none, none, some (.int l5), some (.int l6), some (.int l7), some (.int l8), some (.int l9), some (.int l10), none]) ⟨Or.inr rfl, Or.inr rfl, Or.inr rfl, Or.inr rfl, Or.inr rfl, Or.inr rfl, Or.inr rfl, Or.inr rfl, Or.inr rfl, Or.inr rfl, Or.inr rfl, Or.inl rfl, trivial⟩ ?_
      exact T_X12_rooms_189 hd hk97 hk117 hq
    ·
      refine st_iload (pc := 134) dX12_rooms_134 rfl ?_
      refine st_iload (pc := 136) dX12_rooms_136 rfl ?_
      refine st_ishr (pc := 138) dX12_rooms_138 ?_
      refine st_iconst (pc := 139) (v := (1 : Int32)) dX12_rooms_139 rfl ?_
      refine st_iand (pc := 140) dX12_rooms_140 ?_
      refine st_iconst (pc := 141) (v := (1 : Int32)) dX12_rooms_141 rfl ?_
      refine bd_icmp_ne (pc := 142) (tgt := 189) hq dX12_rooms_142 (by decide) (fun _ hq => ?_) (fun _ hq => ?_)
      ·
        refine st_iload (pc := 145) dX12_rooms_145 rfl ?_
        refine st_aload_n (pc := 147) dX12_rooms_147 rfl ?_
        refine st_aload_n (pc := 148) dX12_rooms_148 rfl ?_
        refine bd_getr (pc := 149) hq dX12_rooms_149 fl_12_40_12 rfl (fun v1 hq => ?_)
        refine st_iload (pc := 152) dX12_rooms_152 rfl ?_
        refine bd_iald (pc := 154) hq dX12_rooms_154 (fun v2 hq => ?_)
        refine st_aload_n (pc := 155) dX12_rooms_155 rfl ?_
        refine bd_getr (pc := 156) hq dX12_rooms_156 fl_12_43_12 rfl (fun v3 hq => ?_)
        refine st_iload (pc := 159) dX12_rooms_159 rfl ?_
        refine bd_iald (pc := 161) hq dX12_rooms_161 (fun v4 hq => ?_)
        refine st_iconst (pc := 162) (v := (0 : Int32)) dX12_rooms_162 rfl ?_
        obtain ⟨⟨hbq5, hkq5⟩, hq⟩ := mh_oi hq
        obtain ⟨q5, e5, hq⟩ := mh_ob hq
        refine st_invV (pc := 163) (ci := 12) (vs := [.int v2, .int v4, .int (0 : Int32)]) (rest := [.int l9]) (st2 := [.int q5.1, .int l9]) dX12_rooms_163 okX12_said (by decide) hkq5 hbq5 wd_1577 wd_1579 wp_77 pdX12_said rfl rfl rfl rfl (Nat.le_trans (by decide) hd) (Nat.le_of_ble_eq_true rfl) (T_X12_said (Nat.le_refl _) e5) rfl ?_
        refine st_iconst (pc := 166) (v := (1 : Int32)) dX12_rooms_166 rfl ?_
        refine bd_icmp_ne (pc := 167) (tgt := 179) hq dX12_rooms_167 (by decide) (fun _ hq => ?_) (fun _ hq => ?_)
        ·
          refine st_iconst (pc := 170) (v := (1 : Int32)) dX12_rooms_170 rfl ?_
          refine st_iload (pc := 171) dX12_rooms_171 rfl ?_
          refine st_ishl (pc := 173) dX12_rooms_173 ?_
          refine st_iconst (pc := 174) (v := (-1 : Int32)) dX12_rooms_174 rfl ?_
          refine st_ixor (pc := 175) dX12_rooms_175 ?_
          refine st_goto (pc := 176) (tgt := 180) dX12_rooms_176 (by decide) ?_
          refine st_lesS (lv' := [some (.ref l0), none, none, none, none, some (.int l5), some (.int l6), some (.int l7), some (.int l8), none, some (.int l10), some (.int l11)]) ⟨Or.inr rfl, Or.inr rfl, Or.inr rfl, Or.inr rfl, Or.inr rfl, Or.inr rfl, Or.inr rfl, Or.inr rfl, Or.inr rfl, Or.inl rfl, Or.inr rfl, Or.inr rfl, trivial⟩ ?_
          exact T_X12_rooms_180 hd hk97 hk117 ih hq
        ·
          refine st_iconst (pc := 179) (v := (-1 : Int32)) dX12_rooms_179 rfl ?_
          refine st_lesS (lv' := [some (.ref l0), none, none, none, none, some (.int l5), some (.int l6), some (.int l7), some (.int l8), none, some (.int l10), some (.int l11)]) ⟨Or.inr rfl, Or.inr rfl, Or.inr rfl, Or.inr rfl, Or.inr rfl, Or.inr rfl, Or.inr rfl, Or.inr rfl, Or.inr rfl, Or.inl rfl, Or.inr rfl, Or.inr rfl, trivial⟩ ?_
          exact T_X12_rooms_180 hd hk97 hk117 ih hq
      ·
        refine st_lesS (lv' := [some (.ref l0), none, none, none, none, some (.int l5), some (.int l6), some (.int l7), some (.int l8), some (.int l9), some (.int l10), none]) ⟨Or.inr rfl, Or.inr rfl, Or.inr rfl, Or.inr rfl, Or.inr rfl, Or.inr rfl, Or.inr rfl, Or.inr rfl, Or.inr rfl, Or.inr rfl, Or.inr rfl, Or.inl rfl, trivial⟩ ?_
        exact T_X12_rooms_189 hd hk97 hk117 hq
def D_X12_rooms_243 (N : Nat) (k97 : mh_H → Nat → Int32 → Int32 → Int32 → Int32 → Option (Int32 × mh_H)) (k206 : mh_H → Nat → Int32 → Int32 → Int32 → Int32 → Int32 → Int32 → Option (Int32 × mh_H)) (h : mh_H) (l0 : Nat) (l5 : Int32) (l6 : Int32) (l7 : Int32) (l8 : Int32) (l9 : Int32) (l10 : Int32) (s0 : Nat) (s1 : Int32) (s2 : Int32) (s3 : Int32) : Option (Int32 × mh_H) :=
  (uI h s0 s1 (s2 ||| s3)).bind fun h1 =>
  k206 h1 l0 l5 l6 l7 l8 l9 (l10 + Int32.ofInt (1))
set_option maxHeartbeats 4000000 in
set_option maxRecDepth 100000 in
theorem T_X12_rooms_243 {P : mh_E → Prop} {N d : Nat} (hd : 14 ≤ d) {z : (Int32 × mh_H)} {k97 : mh_H → Nat → Int32 → Int32 → Int32 → Int32 → Option (Int32 × mh_H)} (hk97 : ∀ (h : mh_H) (l0 : Nat) (l5 : Int32) (l6 : Int32) (l7 : Int32) (l8 : Int32), k97 h l0 l5 l6 l7 l8 = some z → mh_go P d mX12_rooms 97 [some (.ref l0), none, none, none, none, some (.int l5), some (.int l6), some (.int l7), some (.int l8), none, none, none] [] h (some (.int z.1)) z.2) {k206 : mh_H → Nat → Int32 → Int32 → Int32 → Int32 → Int32 → Int32 → Option (Int32 × mh_H)} (hk206 : ∀ (h : mh_H) (l0 : Nat) (l5 : Int32) (l6 : Int32) (l7 : Int32) (l8 : Int32) (l9 : Int32) (l10 : Int32), k206 h l0 l5 l6 l7 l8 l9 l10 = some z → mh_go P d mX12_rooms 206 [some (.ref l0), none, none, none, none, some (.int l5), some (.int l6), some (.int l7), some (.int l8), some (.int l9), some (.int l10), none] [] h (some (.int z.1)) z.2) {h : mh_H} {l0 : Nat} {l5 : Int32} {l6 : Int32} {l7 : Int32} {l8 : Int32} {l9 : Int32} {l10 : Int32} {s0 : Nat} {s1 : Int32} {s2 : Int32} {s3 : Int32} (hq : D_X12_rooms_243 N k97 k206 h l0 l5 l6 l7 l8 l9 l10 s0 s1 s2 s3 = some z) : mh_go P d mX12_rooms 243 [some (.ref l0), none, none, none, none, some (.int l5), some (.int l6), some (.int l7), some (.int l8), some (.int l9), some (.int l10), none] [.int s3, .int s2, .int s1, .ref s0] h (some (.int z.1)) z.2 := by
  unfold D_X12_rooms_243 at hq
  refine st_ior (pc := 243) dX12_rooms_243 ?_
  refine bd_iast (pc := 244) hq dX12_rooms_244 (fun h1 hq => ?_)
  refine st_iinc (pc := 245) (lv' := [some (.ref l0), none, none, none, none, some (.int l5), some (.int l6), some (.int l7), some (.int l8), some (.int l9), some (.int (l10 + Int32.ofInt (1))), none]) dX12_rooms_245 rfl rfl (by decide) rfl ?_
  refine st_goto (pc := 248) (tgt := 206) dX12_rooms_248 (by decide) ?_
  exact hk206 _ _ _ _ _ _ _ _ hq
def D_X12_rooms_206 (N : Nat) (k97 : mh_H → Nat → Int32 → Int32 → Int32 → Int32 → Option (Int32 × mh_H)) : Nat → mh_H → Nat → Int32 → Int32 → Int32 → Int32 → Int32 → Int32 → Option (Int32 × mh_H)
  | 0, _, _, _, _, _, _, _, _ => none
  | F + 1, h, l0, l5, l6, l7, l8, l9, l10 =>
    if l5 ≤ l10 then (k97 h l0 l5 l6 l7 (l8 + Int32.ofInt (1)))
    else ((gR h 12 l0 19).bind fun v1 =>
    (aI h v1 l8).bind fun v2 =>
    if ((l8 >>> (l10 &&& 31)) &&& (1 : Int32)) = (1 : Int32) then (D_X12_rooms_243 N k97 (D_X12_rooms_206 N k97 F) h l0 l5 l6 l7 l8 l9 l10 v1 l8 v2 (l9 <<< (((5 : Int32) * l10) &&& 31)))
    else (D_X12_rooms_243 N k97 (D_X12_rooms_206 N k97 F) h l0 l5 l6 l7 l8 l9 l10 v1 l8 v2 (0 : Int32)))
set_option maxHeartbeats 4000000 in
set_option maxRecDepth 100000 in
theorem T_X12_rooms_206 {P : mh_E → Prop} {N d : Nat} (hd : 14 ≤ d) {z : (Int32 × mh_H)} {k97 : mh_H → Nat → Int32 → Int32 → Int32 → Int32 → Option (Int32 × mh_H)} (hk97 : ∀ (h : mh_H) (l0 : Nat) (l5 : Int32) (l6 : Int32) (l7 : Int32) (l8 : Int32), k97 h l0 l5 l6 l7 l8 = some z → mh_go P d mX12_rooms 97 [some (.ref l0), none, none, none, none, some (.int l5), some (.int l6), some (.int l7), some (.int l8), none, none, none] [] h (some (.int z.1)) z.2) : ∀ (F : Nat) (h : mh_H) (l0 : Nat) (l5 : Int32) (l6 : Int32) (l7 : Int32) (l8 : Int32) (l9 : Int32) (l10 : Int32), D_X12_rooms_206 N k97 F h l0 l5 l6 l7 l8 l9 l10 = some z → mh_go P d mX12_rooms 206 [some (.ref l0), none, none, none, none, some (.int l5), some (.int l6), some (.int l7), some (.int l8), some (.int l9), some (.int l10), none] [] h (some (.int z.1)) z.2 := by
  intro F
  induction F with
  | zero => intro h l0 l5 l6 l7 l8 l9 l10 hq; rw [D_X12_rooms_206] at hq; cases hq
  | succ F ih =>
    intro h l0 l5 l6 l7 l8 l9 l10 hq
    rw [D_X12_rooms_206] at hq
    refine st_iload (pc := 206) dX12_rooms_206 rfl ?_
    refine st_iload (pc := 208) dX12_rooms_208 rfl ?_
    refine bd_icmp_ge (pc := 210) (tgt := 251) hq dX12_rooms_210 (by decide) (fun _ hq => ?_) (fun _ hq => ?_)
    ·
      refine st_iinc (pc := 251) (lv' := [some (.ref l0), none, none, none, none, some (.int l5), some (.int l6), some (.int l7), some (.int (l8 + Int32.ofInt (1))), some (.int l9), some (.int l10), none]) dX12_rooms_251 rfl rfl (by decide) rfl ?_
      refine st_goto (pc := 254) (tgt := 97) dX12_rooms_254 (by decide) ?_
      refine st_lesS (lv' := [some (.ref l0), none, none, none, none, some (.int l5), some (.int l6), some (.int l7), some (.int (l8 + Int32.ofInt (1))), none, none, none]) ⟨Or.inr rfl, Or.inr rfl, Or.inr rfl, Or.inr rfl, Or.inr rfl, Or.inr rfl, Or.inr rfl, Or.inr rfl, Or.inr rfl, Or.inl rfl, Or.inl rfl, Or.inr rfl, trivial⟩ ?_
      exact hk97 _ _ _ _ _ _ hq
    ·
      refine st_aload_n (pc := 213) dX12_rooms_213 rfl ?_
      refine bd_getr (pc := 214) hq dX12_rooms_214 fl_12_46_12 rfl (fun v1 hq => ?_)
      refine st_iload (pc := 217) dX12_rooms_217 rfl ?_
      refine st_dup2 (pc := 219) dX12_rooms_219 rfl rfl ?_
      refine bd_iald (pc := 220) hq dX12_rooms_220 (fun v2 hq => ?_)
      refine st_iload (pc := 221) dX12_rooms_221 rfl ?_
      refine st_iload (pc := 223) dX12_rooms_223 rfl ?_
      refine st_ishr (pc := 225) dX12_rooms_225 ?_
      refine st_iconst (pc := 226) (v := (1 : Int32)) dX12_rooms_226 rfl ?_
      refine st_iand (pc := 227) dX12_rooms_227 ?_
      refine st_iconst (pc := 228) (v := (1 : Int32)) dX12_rooms_228 rfl ?_
      refine bd_icmp_ne (pc := 229) (tgt := 242) hq dX12_rooms_229 (by decide) (fun _ hq => ?_) (fun _ hq => ?_)
      ·
        refine st_iload (pc := 232) dX12_rooms_232 rfl ?_
        refine st_iconst (pc := 234) (v := (5 : Int32)) dX12_rooms_234 rfl ?_
        refine st_iload (pc := 235) dX12_rooms_235 rfl ?_
        refine st_imul (pc := 237) dX12_rooms_237 ?_
        refine st_ishl (pc := 238) dX12_rooms_238 ?_
        refine st_goto (pc := 239) (tgt := 243) dX12_rooms_239 (by decide) ?_
        exact T_X12_rooms_243 hd hk97 ih hq
      ·
        refine st_iconst (pc := 242) (v := (0 : Int32)) dX12_rooms_242 rfl ?_
        exact T_X12_rooms_243 hd hk97 ih hq
def D_X12_rooms_117 (N : Nat) (k97 : mh_H → Nat → Int32 → Int32 → Int32 → Int32 → Option (Int32 × mh_H)) : Nat → mh_H → Nat → Int32 → Int32 → Int32 → Int32 → Int32 → Int32 → Option (Int32 × mh_H)
  | 0, _, _, _, _, _, _, _, _ => none
  | F + 1, h, l0, l5, l6, l7, l8, l9, l10 =>
    if l5 ≤ l10 then ((gR h 12 l0 19).bind fun v1 =>
    (uI h v1 l8 (0 : Int32)).bind fun h2 =>
    D_X12_rooms_206 N k97 N h2 l0 l5 l6 l7 l8 l9 (0 : Int32))
    else (D_X12_rooms_127 N k97 (D_X12_rooms_117 N k97 F) N h l0 l5 l6 l7 l8 l9 l10 (0 : Int32))
set_option maxHeartbeats 4000000 in
set_option maxRecDepth 100000 in
theorem T_X12_rooms_117 {P : mh_E → Prop} {N d : Nat} (hd : 14 ≤ d) {z : (Int32 × mh_H)} {k97 : mh_H → Nat → Int32 → Int32 → Int32 → Int32 → Option (Int32 × mh_H)} (hk97 : ∀ (h : mh_H) (l0 : Nat) (l5 : Int32) (l6 : Int32) (l7 : Int32) (l8 : Int32), k97 h l0 l5 l6 l7 l8 = some z → mh_go P d mX12_rooms 97 [some (.ref l0), none, none, none, none, some (.int l5), some (.int l6), some (.int l7), some (.int l8), none, none, none] [] h (some (.int z.1)) z.2) : ∀ (F : Nat) (h : mh_H) (l0 : Nat) (l5 : Int32) (l6 : Int32) (l7 : Int32) (l8 : Int32) (l9 : Int32) (l10 : Int32), D_X12_rooms_117 N k97 F h l0 l5 l6 l7 l8 l9 l10 = some z → mh_go P d mX12_rooms 117 [some (.ref l0), none, none, none, none, some (.int l5), some (.int l6), some (.int l7), some (.int l8), some (.int l9), some (.int l10), none] [] h (some (.int z.1)) z.2 := by
  intro F
  induction F with
  | zero => intro h l0 l5 l6 l7 l8 l9 l10 hq; rw [D_X12_rooms_117] at hq; cases hq
  | succ F ih =>
    intro h l0 l5 l6 l7 l8 l9 l10 hq
    rw [D_X12_rooms_117] at hq
    refine st_iload (pc := 117) dX12_rooms_117 rfl ?_
    refine st_iload (pc := 119) dX12_rooms_119 rfl ?_
    refine bd_icmp_ge (pc := 121) (tgt := 195) hq dX12_rooms_121 (by decide) (fun _ hq => ?_) (fun _ hq => ?_)
    ·
      refine st_aload_n (pc := 195) dX12_rooms_195 rfl ?_
      refine bd_getr (pc := 196) hq dX12_rooms_196 fl_12_46_12 rfl (fun v1 hq => ?_)
      refine st_iload (pc := 199) dX12_rooms_199 rfl ?_
      refine st_iconst (pc := 201) (v := (0 : Int32)) dX12_rooms_201 rfl ?_
      refine bd_iast (pc := 202) hq dX12_rooms_202 (fun h2 hq => ?_)
      refine st_iconst (pc := 203) (v := (0 : Int32)) dX12_rooms_203 rfl ?_
      refine st_istore (pc := 204) (lv' := [some (.ref l0), none, none, none, none, some (.int l5), some (.int l6), some (.int l7), some (.int l8), some (.int l9), some (.int (0 : Int32)), none]) dX12_rooms_204 rfl (by decide) rfl ?_
      exact T_X12_rooms_206 hd hk97 N _ _ _ _ _ _ _ _ hq
    ·
      refine st_iconst (pc := 124) (v := (0 : Int32)) dX12_rooms_124 rfl ?_
      refine st_istore (pc := 125) (lv' := [some (.ref l0), none, none, none, none, some (.int l5), some (.int l6), some (.int l7), some (.int l8), some (.int l9), some (.int l10), some (.int (0 : Int32))]) dX12_rooms_125 rfl (by decide) rfl ?_
      exact T_X12_rooms_127 hd hk97 ih N _ _ _ _ _ _ _ _ _ hq
def D_X12_rooms_315 (N : Nat) (k260 : mh_H → Nat → Int32 → Int32 → Int32 → Int32 → Option (Int32 × mh_H)) (k270 : mh_H → Nat → Int32 → Int32 → Int32 → Int32 → Int32 → Option (Int32 × mh_H)) (h : mh_H) (l0 : Nat) (l5 : Int32) (l6 : Int32) (l8 : Int32) (l9 : Int32) (s0 : Int32) (s1 : Int32) : Option (Int32 × mh_H) :=
  k270 h l0 l5 l6 (s0 ||| s1) l8 (l9 + Int32.ofInt (1))
set_option maxHeartbeats 4000000 in
set_option maxRecDepth 100000 in
theorem T_X12_rooms_315 {P : mh_E → Prop} {N d : Nat} (hd : 14 ≤ d) {z : (Int32 × mh_H)} {k260 : mh_H → Nat → Int32 → Int32 → Int32 → Int32 → Option (Int32 × mh_H)} (hk260 : ∀ (h : mh_H) (l0 : Nat) (l5 : Int32) (l6 : Int32) (l7 : Int32) (l8 : Int32), k260 h l0 l5 l6 l7 l8 = some z → mh_go P d mX12_rooms 260 [some (.ref l0), none, none, none, none, some (.int l5), some (.int l6), some (.int l7), some (.int l8), none, none, none] [] h (some (.int z.1)) z.2) {k270 : mh_H → Nat → Int32 → Int32 → Int32 → Int32 → Int32 → Option (Int32 × mh_H)} (hk270 : ∀ (h : mh_H) (l0 : Nat) (l5 : Int32) (l6 : Int32) (l7 : Int32) (l8 : Int32) (l9 : Int32), k270 h l0 l5 l6 l7 l8 l9 = some z → mh_go P d mX12_rooms 270 [some (.ref l0), none, none, none, none, some (.int l5), some (.int l6), some (.int l7), some (.int l8), some (.int l9), none, none] [] h (some (.int z.1)) z.2) {h : mh_H} {l0 : Nat} {l5 : Int32} {l6 : Int32} {l8 : Int32} {l9 : Int32} {s0 : Int32} {s1 : Int32} (hq : D_X12_rooms_315 N k260 k270 h l0 l5 l6 l8 l9 s0 s1 = some z) : mh_go P d mX12_rooms 315 [some (.ref l0), none, none, none, none, some (.int l5), some (.int l6), none, some (.int l8), some (.int l9), none, none] [.int s1, .int s0] h (some (.int z.1)) z.2 := by
  unfold D_X12_rooms_315 at hq
  refine st_ior (pc := 315) dX12_rooms_315 ?_
  refine st_istore (pc := 316) (lv' := [some (.ref l0), none, none, none, none, some (.int l5), some (.int l6), some (.int (s0 ||| s1)), some (.int l8), some (.int l9), none, none]) dX12_rooms_316 rfl (by decide) rfl ?_
  refine st_iinc (pc := 318) (lv' := [some (.ref l0), none, none, none, none, some (.int l5), some (.int l6), some (.int (s0 ||| s1)), some (.int l8), some (.int (l9 + Int32.ofInt (1))), none, none]) dX12_rooms_318 rfl rfl (by decide) rfl ?_
  refine st_goto (pc := 321) (tgt := 270) dX12_rooms_321 (by decide) ?_
  exact hk270 _ _ _ _ _ _ _ hq
def D_X12_rooms_270 (N : Nat) (k260 : mh_H → Nat → Int32 → Int32 → Int32 → Int32 → Option (Int32 × mh_H)) : Nat → mh_H → Nat → Int32 → Int32 → Int32 → Int32 → Int32 → Option (Int32 × mh_H)
  | 0, _, _, _, _, _, _, _ => none
  | F + 1, h, l0, l5, l6, l7, l8, l9 =>
    if l6 ≤ l9 then (k260 h l0 l5 l6 l7 (l8 + Int32.ofInt (1)))
    else ((gR h 12 l0 17).bind fun v1 =>
    (aI h v1 l8).bind fun v2 =>
    (gR h 12 l0 18).bind fun v3 =>
    (aI h v3 l9).bind fun v4 =>
    kO h 12 l0 <|
    (D_X12_said N h l0 v2 v4 (0 : Int32)).bind fun q5 =>
    if q5.1 = (3 : Int32) then (D_X12_rooms_315 N k260 (D_X12_rooms_270 N k260 F) q5.2 l0 l5 l6 l8 l9 l7 ((1 : Int32) <<< ((((5 : Int32) * l8) + l9) &&& 31)))
    else (D_X12_rooms_315 N k260 (D_X12_rooms_270 N k260 F) q5.2 l0 l5 l6 l8 l9 l7 (0 : Int32)))
set_option maxHeartbeats 4000000 in
set_option maxRecDepth 100000 in
theorem T_X12_rooms_270 {P : mh_E → Prop} {N d : Nat} (hd : 14 ≤ d) {z : (Int32 × mh_H)} {k260 : mh_H → Nat → Int32 → Int32 → Int32 → Int32 → Option (Int32 × mh_H)} (hk260 : ∀ (h : mh_H) (l0 : Nat) (l5 : Int32) (l6 : Int32) (l7 : Int32) (l8 : Int32), k260 h l0 l5 l6 l7 l8 = some z → mh_go P d mX12_rooms 260 [some (.ref l0), none, none, none, none, some (.int l5), some (.int l6), some (.int l7), some (.int l8), none, none, none] [] h (some (.int z.1)) z.2) : ∀ (F : Nat) (h : mh_H) (l0 : Nat) (l5 : Int32) (l6 : Int32) (l7 : Int32) (l8 : Int32) (l9 : Int32), D_X12_rooms_270 N k260 F h l0 l5 l6 l7 l8 l9 = some z → mh_go P d mX12_rooms 270 [some (.ref l0), none, none, none, none, some (.int l5), some (.int l6), some (.int l7), some (.int l8), some (.int l9), none, none] [] h (some (.int z.1)) z.2 := by
  intro F
  induction F with
  | zero => intro h l0 l5 l6 l7 l8 l9 hq; rw [D_X12_rooms_270] at hq; cases hq
  | succ F ih =>
    intro h l0 l5 l6 l7 l8 l9 hq
    rw [D_X12_rooms_270] at hq
    refine st_iload (pc := 270) dX12_rooms_270 rfl ?_
    refine st_iload (pc := 272) dX12_rooms_272 rfl ?_
    refine bd_icmp_ge (pc := 274) (tgt := 324) hq dX12_rooms_274 (by decide) (fun _ hq => ?_) (fun _ hq => ?_)
    ·
      refine st_iinc (pc := 324) (lv' := [some (.ref l0), none, none, none, none, some (.int l5), some (.int l6), some (.int l7), some (.int (l8 + Int32.ofInt (1))), some (.int l9), none, none]) dX12_rooms_324 rfl rfl (by decide) rfl ?_
      refine st_goto (pc := 327) (tgt := 260) dX12_rooms_327 (by decide) ?_
      refine st_lesS (lv' := [some (.ref l0), none, none, none, none, some (.int l5), some (.int l6), some (.int l7), some (.int (l8 + Int32.ofInt (1))), none, none, none]) ⟨Or.inr rfl, Or.inr rfl, Or.inr rfl, Or.inr rfl, Or.inr rfl, Or.inr rfl, Or.inr rfl, Or.inr rfl, Or.inr rfl, Or.inl rfl, Or.inr rfl, Or.inr rfl, trivial⟩ ?_
      exact hk260 _ _ _ _ _ _ hq
    ·
      refine st_iload (pc := 277) dX12_rooms_277 rfl ?_
      refine st_aload_n (pc := 279) dX12_rooms_279 rfl ?_
      refine st_aload_n (pc := 280) dX12_rooms_280 rfl ?_
      refine bd_getr (pc := 281) hq dX12_rooms_281 fl_12_40_12 rfl (fun v1 hq => ?_)
      refine st_iload (pc := 284) dX12_rooms_284 rfl ?_
      refine bd_iald (pc := 286) hq dX12_rooms_286 (fun v2 hq => ?_)
      refine st_aload_n (pc := 287) dX12_rooms_287 rfl ?_
      refine bd_getr (pc := 288) hq dX12_rooms_288 fl_12_43_12 rfl (fun v3 hq => ?_)
      refine st_iload (pc := 291) dX12_rooms_291 rfl ?_
      refine bd_iald (pc := 293) hq dX12_rooms_293 (fun v4 hq => ?_)
      refine st_iconst (pc := 294) (v := (0 : Int32)) dX12_rooms_294 rfl ?_
      obtain ⟨⟨hbq5, hkq5⟩, hq⟩ := mh_oi hq
      obtain ⟨q5, e5, hq⟩ := mh_ob hq
      refine st_invV (pc := 295) (ci := 12) (vs := [.int v2, .int v4, .int (0 : Int32)]) (rest := [.int l7]) (st2 := [.int q5.1, .int l7]) dX12_rooms_295 okX12_said (by decide) hkq5 hbq5 wd_1577 wd_1579 wp_77 pdX12_said rfl rfl rfl rfl (Nat.le_trans (by decide) hd) (Nat.le_of_ble_eq_true rfl) (T_X12_said (Nat.le_refl _) e5) rfl ?_
      refine st_iconst (pc := 298) (v := (3 : Int32)) dX12_rooms_298 rfl ?_
      refine bd_icmp_ne (pc := 299) (tgt := 314) hq dX12_rooms_299 (by decide) (fun _ hq => ?_) (fun _ hq => ?_)
      ·
        refine st_iconst (pc := 302) (v := (1 : Int32)) dX12_rooms_302 rfl ?_
        refine st_iconst (pc := 303) (v := (5 : Int32)) dX12_rooms_303 rfl ?_
        refine st_iload (pc := 304) dX12_rooms_304 rfl ?_
        refine st_imul (pc := 306) dX12_rooms_306 ?_
        refine st_iload (pc := 307) dX12_rooms_307 rfl ?_
        refine st_iadd (pc := 309) dX12_rooms_309 ?_
        refine st_ishl (pc := 310) dX12_rooms_310 ?_
        refine st_goto (pc := 311) (tgt := 315) dX12_rooms_311 (by decide) ?_
        refine st_lesS (lv' := [some (.ref l0), none, none, none, none, some (.int l5), some (.int l6), none, some (.int l8), some (.int l9), none, none]) ⟨Or.inr rfl, Or.inr rfl, Or.inr rfl, Or.inr rfl, Or.inr rfl, Or.inr rfl, Or.inr rfl, Or.inl rfl, Or.inr rfl, Or.inr rfl, Or.inr rfl, Or.inr rfl, trivial⟩ ?_
        exact T_X12_rooms_315 hd hk260 ih hq
      ·
        refine st_iconst (pc := 314) (v := (0 : Int32)) dX12_rooms_314 rfl ?_
        refine st_lesS (lv' := [some (.ref l0), none, none, none, none, some (.int l5), some (.int l6), none, some (.int l8), some (.int l9), none, none]) ⟨Or.inr rfl, Or.inr rfl, Or.inr rfl, Or.inr rfl, Or.inr rfl, Or.inr rfl, Or.inr rfl, Or.inl rfl, Or.inr rfl, Or.inr rfl, Or.inr rfl, Or.inr rfl, trivial⟩ ?_
        exact T_X12_rooms_315 hd hk260 ih hq
def D_X12_rooms_333 (N : Nat) : Nat → mh_H → Nat → Int32 → Int32 → Int32 → Option (Int32 × mh_H)
  | 0, _, _, _, _, _ => none
  | F + 1, h, l0, l5, l7, l8 =>
    kO h 12 l0 <|
    (D_X12_canHold N 12 h l0 l7 l8 ((1 : Int32) <<< (l5 &&& 31))).bind fun q1 =>
    if q1.1 = 0 then ((D_X12_rooms_333 N F) q1.2 l0 l5 l7 (l8 + Int32.ofInt (1)))
    else (some (l8, q1.2))
set_option maxHeartbeats 4000000 in
set_option maxRecDepth 100000 in
theorem T_X12_rooms_333 {P : mh_E → Prop} {N d : Nat} (hd : 14 ≤ d) {z : (Int32 × mh_H)} : ∀ (F : Nat) (h : mh_H) (l0 : Nat) (l5 : Int32) (l7 : Int32) (l8 : Int32), D_X12_rooms_333 N F h l0 l5 l7 l8 = some z → mh_go P d mX12_rooms 333 [some (.ref l0), none, none, none, none, some (.int l5), none, some (.int l7), some (.int l8), none, none, none] [] h (some (.int z.1)) z.2 := by
  intro F
  induction F with
  | zero => intro h l0 l5 l7 l8 hq; rw [D_X12_rooms_333] at hq; cases hq
  | succ F ih =>
    intro h l0 l5 l7 l8 hq
    rw [D_X12_rooms_333] at hq
    refine st_aload_n (pc := 333) dX12_rooms_333 rfl ?_
    refine st_iload (pc := 334) dX12_rooms_334 rfl ?_
    refine st_iload (pc := 336) dX12_rooms_336 rfl ?_
    refine st_iconst (pc := 338) (v := (1 : Int32)) dX12_rooms_338 rfl ?_
    refine st_iload (pc := 339) dX12_rooms_339 rfl ?_
    refine st_ishl (pc := 341) dX12_rooms_341 ?_
    obtain ⟨⟨hbq1, hkq1⟩, hq⟩ := mh_oi hq
    obtain ⟨q1, e1, hq⟩ := mh_ob hq
    refine st_invV (pc := 342) (ci := 12) (vs := [.int l7, .int l8, .int ((1 : Int32) <<< (l5 &&& 31))]) (rest := []) (st2 := [.int q1.1]) dX12_rooms_342 okX12_canHold (by decide) hkq1 hbq1 wd_1620 wd_1622 wp_82 pdX12_canHold rfl rfl rfl rfl (Nat.le_trans (by decide) hd) (Nat.le_of_ble_eq_true rfl) (T_X12_canHold 12 _ (Nat.le_refl _) _ _ _ _ _ _ e1) rfl ?_
    refine bd_if_ne (pc := 345) (tgt := 354) hq dX12_rooms_345 (by decide) (fun _ hq => ?_) (fun _ hq => ?_)
    ·
      refine st_iinc (pc := 348) (lv' := [some (.ref l0), none, none, none, none, some (.int l5), none, some (.int l7), some (.int (l8 + Int32.ofInt (1))), none, none, none]) dX12_rooms_348 rfl rfl (by decide) rfl ?_
      refine st_goto (pc := 351) (tgt := 333) dX12_rooms_351 (by decide) ?_
      exact ih _ _ _ _ _ hq
    ·
      refine st_iload (pc := 354) dX12_rooms_354 rfl ?_
      exact bd_iret (pc := 356) hq dX12_rooms_356 rfl
def D_X12_rooms_260 (N : Nat) : Nat → mh_H → Nat → Int32 → Int32 → Int32 → Int32 → Option (Int32 × mh_H)
  | 0, _, _, _, _, _, _ => none
  | F + 1, h, l0, l5, l6, l7, l8 =>
    if l5 ≤ l8 then (D_X12_rooms_333 N N h l0 l5 l7 (0 : Int32))
    else (D_X12_rooms_270 N (D_X12_rooms_260 N F) N h l0 l5 l6 l7 l8 (0 : Int32))
set_option maxHeartbeats 4000000 in
set_option maxRecDepth 100000 in
theorem T_X12_rooms_260 {P : mh_E → Prop} {N d : Nat} (hd : 14 ≤ d) {z : (Int32 × mh_H)} : ∀ (F : Nat) (h : mh_H) (l0 : Nat) (l5 : Int32) (l6 : Int32) (l7 : Int32) (l8 : Int32), D_X12_rooms_260 N F h l0 l5 l6 l7 l8 = some z → mh_go P d mX12_rooms 260 [some (.ref l0), none, none, none, none, some (.int l5), some (.int l6), some (.int l7), some (.int l8), none, none, none] [] h (some (.int z.1)) z.2 := by
  intro F
  induction F with
  | zero => intro h l0 l5 l6 l7 l8 hq; rw [D_X12_rooms_260] at hq; cases hq
  | succ F ih =>
    intro h l0 l5 l6 l7 l8 hq
    rw [D_X12_rooms_260] at hq
    refine st_iload (pc := 260) dX12_rooms_260 rfl ?_
    refine st_iload (pc := 262) dX12_rooms_262 rfl ?_
    refine bd_icmp_ge (pc := 264) (tgt := 330) hq dX12_rooms_264 (by decide) (fun _ hq => ?_) (fun _ hq => ?_)
    ·
      refine st_iconst (pc := 330) (v := (0 : Int32)) dX12_rooms_330 rfl ?_
      refine st_istore (pc := 331) (lv' := [some (.ref l0), none, none, none, none, some (.int l5), some (.int l6), some (.int l7), some (.int (0 : Int32)), none, none, none]) dX12_rooms_331 rfl (by decide) rfl ?_
      refine st_lesS (lv' := [some (.ref l0), none, none, none, none, some (.int l5), none, some (.int l7), some (.int (0 : Int32)), none, none, none]) ⟨Or.inr rfl, Or.inr rfl, Or.inr rfl, Or.inr rfl, Or.inr rfl, Or.inr rfl, Or.inl rfl, Or.inr rfl, Or.inr rfl, Or.inr rfl, Or.inr rfl, Or.inr rfl, trivial⟩ ?_
      exact T_X12_rooms_333 hd N _ _ _ _ _ hq
    ·
      refine st_iconst (pc := 267) (v := (0 : Int32)) dX12_rooms_267 rfl ?_
      refine st_istore (pc := 268) (lv' := [some (.ref l0), none, none, none, none, some (.int l5), some (.int l6), some (.int l7), some (.int l8), some (.int (0 : Int32)), none, none]) dX12_rooms_268 rfl (by decide) rfl ?_
      exact T_X12_rooms_270 hd ih N _ _ _ _ _ _ _ hq
def D_X12_rooms_97 (N : Nat) : Nat → mh_H → Nat → Int32 → Int32 → Int32 → Int32 → Option (Int32 × mh_H)
  | 0, _, _, _, _, _, _ => none
  | F + 1, h, l0, l5, l6, l7, l8 =>
    if ((1 : Int32) <<< (l5 &&& 31)) ≤ l8 then (D_X12_rooms_260 N N h l0 l5 l6 l7 (0 : Int32))
    else (mh_let (((1 : Int32) <<< (l6 &&& 31)) - (1 : Int32)) fun v1 =>
    D_X12_rooms_117 N (D_X12_rooms_97 N F) N h l0 l5 l6 l7 l8 v1 (0 : Int32))
set_option maxHeartbeats 4000000 in
set_option maxRecDepth 100000 in
theorem T_X12_rooms_97 {P : mh_E → Prop} {N d : Nat} (hd : 14 ≤ d) {z : (Int32 × mh_H)} : ∀ (F : Nat) (h : mh_H) (l0 : Nat) (l5 : Int32) (l6 : Int32) (l7 : Int32) (l8 : Int32), D_X12_rooms_97 N F h l0 l5 l6 l7 l8 = some z → mh_go P d mX12_rooms 97 [some (.ref l0), none, none, none, none, some (.int l5), some (.int l6), some (.int l7), some (.int l8), none, none, none] [] h (some (.int z.1)) z.2 := by
  intro F
  induction F with
  | zero => intro h l0 l5 l6 l7 l8 hq; rw [D_X12_rooms_97] at hq; cases hq
  | succ F ih =>
    intro h l0 l5 l6 l7 l8 hq
    rw [D_X12_rooms_97] at hq
    refine st_iload (pc := 97) dX12_rooms_97 rfl ?_
    refine st_iconst (pc := 99) (v := (1 : Int32)) dX12_rooms_99 rfl ?_
    refine st_iload (pc := 100) dX12_rooms_100 rfl ?_
    refine st_ishl (pc := 102) dX12_rooms_102 ?_
    refine bd_icmp_ge (pc := 103) (tgt := 257) hq dX12_rooms_103 (by decide) (fun _ hq => ?_) (fun _ hq => ?_)
    ·
      refine st_iconst (pc := 257) (v := (0 : Int32)) dX12_rooms_257 rfl ?_
      refine st_istore (pc := 258) (lv' := [some (.ref l0), none, none, none, none, some (.int l5), some (.int l6), some (.int l7), some (.int (0 : Int32)), none, none, none]) dX12_rooms_258 rfl (by decide) rfl ?_
      exact T_X12_rooms_260 hd N _ _ _ _ _ _ hq
    ·
      refine st_iconst (pc := 106) (v := (1 : Int32)) dX12_rooms_106 rfl ?_
      refine st_iload (pc := 107) dX12_rooms_107 rfl ?_
      refine st_ishl (pc := 109) dX12_rooms_109 ?_
      refine st_iconst (pc := 110) (v := (1 : Int32)) dX12_rooms_110 rfl ?_
      refine st_isub (pc := 111) dX12_rooms_111 ?_
      refine bd_leti hq (fun v1 hq => ?_)
      refine st_istore (pc := 112) (lv' := [some (.ref l0), none, none, none, none, some (.int l5), some (.int l6), some (.int l7), some (.int l8), some (.int v1), none, none]) dX12_rooms_112 rfl (by decide) rfl ?_
      refine st_iconst (pc := 114) (v := (0 : Int32)) dX12_rooms_114 rfl ?_
      refine st_istore (pc := 115) (lv' := [some (.ref l0), none, none, none, none, some (.int l5), some (.int l6), some (.int l7), some (.int l8), some (.int v1), some (.int (0 : Int32)), none]) dX12_rooms_115 rfl (by decide) rfl ?_
      exact T_X12_rooms_117 hd ih N _ _ _ _ _ _ _ _ hq
def D_X12_rooms (N : Nat) (h : mh_H) (l0 : Nat) (l1 : Int32) (l2 : Int32) : Option (Int32 × mh_H) :=
  kO h 12 l0 <|
  (D_X12_isWrongSet N h l0 l1 (0 : Int32)).bind fun q1 =>
  kO q1.2 12 l0 <|
  (D_X12_isWrongSet N q1.2 l0 l2 (2 : Int32)).bind fun q2 =>
  if q1.1 = (1 : Int32) then (D_X12_rooms_26 N q2.2 l0)
  else (if q2.1 = (1 : Int32) then (D_X12_rooms_26 N q2.2 l0)
  else (if q1.1 = 0 then (if q2.1 = 0 then ((D_X12_ones N q2.2 l1).bind fun q3 =>
  if (5 : Int32) < q3.1 then (D_X12_rooms_63 N q3.2 l0)
  else ((D_X12_ones N q3.2 l2).bind fun q4 =>
  if q4.1 ≤ (5 : Int32) then ((gR q4.2 12 l0 17).bind fun v5 =>
  kO q4.2 12 l0 <|
  (D_X12_lists N q4.2 l0 l1 v5).bind fun q6 =>
  (gR q6.2 12 l0 18).bind fun v7 =>
  kO q6.2 12 l0 <|
  (D_X12_lists N q6.2 l0 l2 v7).bind fun q8 =>
  D_X12_rooms_97 N N q8.2 l0 q6.1 q8.1 (0 : Int32) (0 : Int32))
  else (D_X12_rooms_63 N q4.2 l0)))
  else (D_X12_rooms_41 N q2.2 l0))
  else (D_X12_rooms_41 N q2.2 l0)))
set_option maxHeartbeats 4000000 in
set_option maxRecDepth 100000 in
theorem T_X12_rooms {P : mh_E → Prop} {N d : Nat} (hd : 14 ≤ d) {z : (Int32 × mh_H)} {h : mh_H} {l0 : Nat} {l1 : Int32} {l2 : Int32} (hq : D_X12_rooms N h l0 l1 l2 = some z) : mh_go P d mX12_rooms 0 [some (.ref l0), some (.int l1), some (.int l2), none, none, none, none, none, none, none, none, none] [] h (some (.int z.1)) z.2 := by
  unfold D_X12_rooms at hq
  refine st_aload_n (pc := 0) dX12_rooms_0 rfl ?_
  refine st_iload_n (pc := 1) dX12_rooms_1 rfl ?_
  refine st_iconst (pc := 2) (v := (0 : Int32)) dX12_rooms_2 rfl ?_
  obtain ⟨⟨hbq1, hkq1⟩, hq⟩ := mh_oi hq
  obtain ⟨q1, e1, hq⟩ := mh_ob hq
  refine st_invV (pc := 3) (ci := 12) (vs := [.int l1, .int (0 : Int32)]) (rest := []) (st2 := [.int q1.1]) dX12_rooms_3 okX12_isWrongSet (by decide) hkq1 hbq1 wd_1609 wd_1611 wp_80 pdX12_isWrongSet rfl rfl rfl rfl (Nat.le_trans (by decide) hd) (Nat.le_of_ble_eq_true rfl) (T_X12_isWrongSet (Nat.le_refl _) e1) rfl ?_
  refine st_istore_n (pc := 6) (lv' := [some (.ref l0), some (.int l1), some (.int l2), some (.int q1.1), none, none, none, none, none, none, none, none]) dX12_rooms_6 rfl (by decide) rfl ?_
  refine st_aload_n (pc := 7) dX12_rooms_7 rfl ?_
  refine st_iload_n (pc := 8) dX12_rooms_8 rfl ?_
  refine st_iconst (pc := 9) (v := (2 : Int32)) dX12_rooms_9 rfl ?_
  obtain ⟨⟨hbq2, hkq2⟩, hq⟩ := mh_oi hq
  obtain ⟨q2, e2, hq⟩ := mh_ob hq
  refine st_invV (pc := 10) (ci := 12) (vs := [.int l2, .int (2 : Int32)]) (rest := []) (st2 := [.int q2.1]) dX12_rooms_10 okX12_isWrongSet (by decide) hkq2 hbq2 wd_1609 wd_1611 wp_80 pdX12_isWrongSet rfl rfl rfl rfl (Nat.le_trans (by decide) hd) (Nat.le_of_ble_eq_true rfl) (T_X12_isWrongSet (Nat.le_refl _) e2) rfl ?_
  refine st_istore (pc := 13) (lv' := [some (.ref l0), some (.int l1), some (.int l2), some (.int q1.1), some (.int q2.1), none, none, none, none, none, none, none]) dX12_rooms_13 rfl (by decide) rfl ?_
  refine st_iload_n (pc := 15) dX12_rooms_15 rfl ?_
  refine st_iconst (pc := 16) (v := (1 : Int32)) dX12_rooms_16 rfl ?_
  refine bd_icmp_eq (pc := 17) (tgt := 26) hq dX12_rooms_17 (by decide) (fun _ hq => ?_) (fun _ hq => ?_)
  ·
    refine st_lesS (lv' := [some (.ref l0), none, none, none, none, none, none, none, none, none, none, none]) ⟨Or.inr rfl, Or.inl rfl, Or.inl rfl, Or.inl rfl, Or.inl rfl, Or.inr rfl, Or.inr rfl, Or.inr rfl, Or.inr rfl, Or.inr rfl, Or.inr rfl, Or.inr rfl, trivial⟩ ?_
    exact T_X12_rooms_26 hd hq
  ·
    refine st_iload (pc := 20) dX12_rooms_20 rfl ?_
    refine st_iconst (pc := 22) (v := (1 : Int32)) dX12_rooms_22 rfl ?_
    refine bd_icmp_ne (pc := 23) (tgt := 32) hq dX12_rooms_23 (by decide) (fun _ hq => ?_) (fun _ hq => ?_)
    ·
      refine st_lesS (lv' := [some (.ref l0), none, none, none, none, none, none, none, none, none, none, none]) ⟨Or.inr rfl, Or.inl rfl, Or.inl rfl, Or.inl rfl, Or.inl rfl, Or.inr rfl, Or.inr rfl, Or.inr rfl, Or.inr rfl, Or.inr rfl, Or.inr rfl, Or.inr rfl, trivial⟩ ?_
      exact T_X12_rooms_26 hd hq
    ·
      refine st_iload_n (pc := 32) dX12_rooms_32 rfl ?_
      refine bd_if_ne (pc := 33) (tgt := 41) hq dX12_rooms_33 (by decide) (fun _ hq => ?_) (fun _ hq => ?_)
      ·
        refine st_iload (pc := 36) dX12_rooms_36 rfl ?_
        refine bd_if_eq (pc := 38) (tgt := 47) hq dX12_rooms_38 (by decide) (fun _ hq => ?_) (fun _ hq => ?_)
        ·
          refine st_iload_n (pc := 47) dX12_rooms_47 rfl ?_
          obtain ⟨q3, e3, hq⟩ := mh_ob hq
          refine st_invS (pc := 48) (Y := mX12_ones) (vs := [.int l1]) (rest := []) (st2 := [.int q3.1]) dX12_rooms_48 okX12_ones wd_1613 wd_1614 pdX12_ones rfl rfl rfl rfl (Nat.le_trans (by decide) hd) (Nat.le_of_ble_eq_true rfl) (T_X12_ones (Nat.le_refl _) e3) rfl ?_
          refine st_iconst (pc := 51) (v := (5 : Int32)) dX12_rooms_51 rfl ?_
          refine bd_icmp_gt (pc := 52) (tgt := 63) hq dX12_rooms_52 (by decide) (fun _ hq => ?_) (fun _ hq => ?_)
          ·
            refine st_lesS (lv' := [some (.ref l0), none, none, none, none, none, none, none, none, none, none, none]) ⟨Or.inr rfl, Or.inl rfl, Or.inl rfl, Or.inl rfl, Or.inl rfl, Or.inr rfl, Or.inr rfl, Or.inr rfl, Or.inr rfl, Or.inr rfl, Or.inr rfl, Or.inr rfl, trivial⟩ ?_
            exact T_X12_rooms_63 hd hq
          ·
            refine st_iload_n (pc := 55) dX12_rooms_55 rfl ?_
            obtain ⟨q4, e4, hq⟩ := mh_ob hq
            refine st_invS (pc := 56) (Y := mX12_ones) (vs := [.int l2]) (rest := []) (st2 := [.int q4.1]) dX12_rooms_56 okX12_ones wd_1613 wd_1614 pdX12_ones rfl rfl rfl rfl (Nat.le_trans (by decide) hd) (Nat.le_of_ble_eq_true rfl) (T_X12_ones (Nat.le_refl _) e4) rfl ?_
            refine st_iconst (pc := 59) (v := (5 : Int32)) dX12_rooms_59 rfl ?_
            refine bd_icmp_le (pc := 60) (tgt := 69) hq dX12_rooms_60 (by decide) (fun _ hq => ?_) (fun _ hq => ?_)
            ·
              refine st_aload_n (pc := 69) dX12_rooms_69 rfl ?_
              refine st_iload_n (pc := 70) dX12_rooms_70 rfl ?_
              refine st_aload_n (pc := 71) dX12_rooms_71 rfl ?_
              refine bd_getr (pc := 72) hq dX12_rooms_72 fl_12_40_12 rfl (fun v5 hq => ?_)
              obtain ⟨⟨hbq6, hkq6⟩, hq⟩ := mh_oi hq
              obtain ⟨q6, e6, hq⟩ := mh_ob hq
              refine st_invV (pc := 75) (ci := 12) (vs := [.int l1, .ref v5]) (rest := []) (st2 := [.int q6.1]) dX12_rooms_75 okX12_lists (by decide) hkq6 hbq6 wd_1616 wd_1618 wp_81 pdX12_lists rfl rfl rfl rfl (Nat.le_trans (by decide) hd) (Nat.le_of_ble_eq_true rfl) (T_X12_lists (Nat.le_refl _) e6) rfl ?_
              refine st_istore (pc := 78) (lv' := [some (.ref l0), some (.int l1), some (.int l2), some (.int q1.1), some (.int q2.1), some (.int q6.1), none, none, none, none, none, none]) dX12_rooms_78 rfl (by decide) rfl ?_
              refine st_aload_n (pc := 80) dX12_rooms_80 rfl ?_
              refine st_iload_n (pc := 81) dX12_rooms_81 rfl ?_
              refine st_aload_n (pc := 82) dX12_rooms_82 rfl ?_
              refine bd_getr (pc := 83) hq dX12_rooms_83 fl_12_43_12 rfl (fun v7 hq => ?_)
              obtain ⟨⟨hbq8, hkq8⟩, hq⟩ := mh_oi hq
              obtain ⟨q8, e8, hq⟩ := mh_ob hq
              refine st_invV (pc := 86) (ci := 12) (vs := [.int l2, .ref v7]) (rest := []) (st2 := [.int q8.1]) dX12_rooms_86 okX12_lists (by decide) hkq8 hbq8 wd_1616 wd_1618 wp_81 pdX12_lists rfl rfl rfl rfl (Nat.le_trans (by decide) hd) (Nat.le_of_ble_eq_true rfl) (T_X12_lists (Nat.le_refl _) e8) rfl ?_
              refine st_istore (pc := 89) (lv' := [some (.ref l0), some (.int l1), some (.int l2), some (.int q1.1), some (.int q2.1), some (.int q6.1), some (.int q8.1), none, none, none, none, none]) dX12_rooms_89 rfl (by decide) rfl ?_
              refine st_iconst (pc := 91) (v := (0 : Int32)) dX12_rooms_91 rfl ?_
              refine st_istore (pc := 92) (lv' := [some (.ref l0), some (.int l1), some (.int l2), some (.int q1.1), some (.int q2.1), some (.int q6.1), some (.int q8.1), some (.int (0 : Int32)), none, none, none, none]) dX12_rooms_92 rfl (by decide) rfl ?_
              refine st_iconst (pc := 94) (v := (0 : Int32)) dX12_rooms_94 rfl ?_
              refine st_istore (pc := 95) (lv' := [some (.ref l0), some (.int l1), some (.int l2), some (.int q1.1), some (.int q2.1), some (.int q6.1), some (.int q8.1), some (.int (0 : Int32)), some (.int (0 : Int32)), none, none, none]) dX12_rooms_95 rfl (by decide) rfl ?_
              refine st_lesS (lv' := [some (.ref l0), none, none, none, none, some (.int q6.1), some (.int q8.1), some (.int (0 : Int32)), some (.int (0 : Int32)), none, none, none]) ⟨Or.inr rfl, Or.inl rfl, Or.inl rfl, Or.inl rfl, Or.inl rfl, Or.inr rfl, Or.inr rfl, Or.inr rfl, Or.inr rfl, Or.inr rfl, Or.inr rfl, Or.inr rfl, trivial⟩ ?_
              exact T_X12_rooms_97 hd N _ _ _ _ _ _ hq
            ·
              refine st_lesS (lv' := [some (.ref l0), none, none, none, none, none, none, none, none, none, none, none]) ⟨Or.inr rfl, Or.inl rfl, Or.inl rfl, Or.inl rfl, Or.inl rfl, Or.inr rfl, Or.inr rfl, Or.inr rfl, Or.inr rfl, Or.inr rfl, Or.inr rfl, Or.inr rfl, trivial⟩ ?_
              exact T_X12_rooms_63 hd hq
        ·
          refine st_lesS (lv' := [some (.ref l0), none, none, none, none, none, none, none, none, none, none, none]) ⟨Or.inr rfl, Or.inl rfl, Or.inl rfl, Or.inl rfl, Or.inl rfl, Or.inr rfl, Or.inr rfl, Or.inr rfl, Or.inr rfl, Or.inr rfl, Or.inr rfl, Or.inr rfl, trivial⟩ ?_
          exact T_X12_rooms_41 hd hq
      ·
        refine st_lesS (lv' := [some (.ref l0), none, none, none, none, none, none, none, none, none, none, none]) ⟨Or.inr rfl, Or.inl rfl, Or.inl rfl, Or.inl rfl, Or.inl rfl, Or.inr rfl, Or.inr rfl, Or.inr rfl, Or.inr rfl, Or.inr rfl, Or.inr rfl, Or.inr rfl, trivial⟩ ?_
        exact T_X12_rooms_41 hd hq
-- HoleWaterModel.town(IZ)I
theorem dX12_town_0 : decode cX12_town 0 = .ok (.aload_n 0, 1) := by decide +kernel
theorem dX12_town_1 : decode cX12_town 1 = .ok (.iload_n 1, 1) := by decide +kernel
theorem dX12_town_2 : decode cX12_town 2 = .ok (.invokevirtual 83, 3) := by decide +kernel
theorem dX12_town_5 : decode cX12_town 5 = .ok (.ifCond .ne 9, 3) := by decide +kernel
theorem dX12_town_8 : decode cX12_town 8 = .ok (.aload_n 0, 1) := by decide +kernel
theorem dX12_town_9 : decode cX12_town 9 = .ok (.iconst 1, 1) := by decide +kernel
theorem dX12_town_10 : decode cX12_town 10 = .ok (.invokevirtual 80, 3) := by decide +kernel
theorem dX12_town_13 : decode cX12_town 13 = .ok (.ireturn, 1) := by decide +kernel
theorem dX12_town_14 : decode cX12_town 14 = .ok (.aload_n 0, 1) := by decide +kernel
theorem dX12_town_15 : decode cX12_town 15 = .ok (.iload_n 1, 1) := by decide +kernel
theorem dX12_town_16 : decode cX12_town 16 = .ok (.invokevirtual 126, 3) := by decide +kernel
theorem dX12_town_19 : decode cX12_town 19 = .ok (.ifCond .ne 9, 3) := by decide +kernel
theorem dX12_town_22 : decode cX12_town 22 = .ok (.aload_n 0, 1) := by decide +kernel
theorem dX12_town_23 : decode cX12_town 23 = .ok (.iconst 5, 1) := by decide +kernel
theorem dX12_town_24 : decode cX12_town 24 = .ok (.invokevirtual 80, 3) := by decide +kernel
theorem dX12_town_27 : decode cX12_town 27 = .ok (.ireturn, 1) := by decide +kernel
theorem dX12_town_28 : decode cX12_town 28 = .ok (.aload_n 0, 1) := by decide +kernel
theorem dX12_town_29 : decode cX12_town 29 = .ok (.getfield 9, 3) := by decide +kernel
theorem dX12_town_32 : decode cX12_town 32 = .ok (.iload_n 1, 1) := by decide +kernel
theorem dX12_town_33 : decode cX12_town 33 = .ok (.invokestatic 71, 3) := by decide +kernel
theorem dX12_town_36 : decode cX12_town 36 = .ok (.bipush 6, 2) := by decide +kernel
theorem dX12_town_38 : decode cX12_town 38 = .ok (.iadd, 1) := by decide +kernel
theorem dX12_town_39 : decode cX12_town 39 = .ok (.iaload, 1) := by decide +kernel
theorem dX12_town_40 : decode cX12_town 40 = .ok (.istore_n 3, 1) := by decide +kernel
theorem dX12_town_41 : decode cX12_town 41 = .ok (.aload_n 0, 1) := by decide +kernel
theorem dX12_town_42 : decode cX12_town 42 = .ok (.getfield 9, 3) := by decide +kernel
theorem dX12_town_45 : decode cX12_town 45 = .ok (.iload_n 1, 1) := by decide +kernel
theorem dX12_town_46 : decode cX12_town 46 = .ok (.invokestatic 71, 3) := by decide +kernel
theorem dX12_town_49 : decode cX12_town 49 = .ok (.bipush 6, 2) := by decide +kernel
theorem dX12_town_51 : decode cX12_town 51 = .ok (.iadd, 1) := by decide +kernel
theorem dX12_town_52 : decode cX12_town 52 = .ok (.iload_n 2, 1) := by decide +kernel
theorem dX12_town_53 : decode cX12_town 53 = .ok (.ifCond .eq 7, 3) := by decide +kernel
theorem dX12_town_60 : decode cX12_town 60 = .ok (.iconst 0, 1) := by decide +kernel
theorem dX12_town_61 : decode cX12_town 61 = .ok (.iastore, 1) := by decide +kernel
theorem dX12_town_62 : decode cX12_town 62 = .ok (.iload_n 3, 1) := by decide +kernel
theorem dX12_town_63 : decode cX12_town 63 = .ok (.ireturn, 1) := by decide +kernel
theorem dX12_town_56 : decode cX12_town 56 = .ok (.iconst 1, 1) := by decide +kernel
theorem dX12_town_57 : decode cX12_town 57 = .ok (.goto 4, 3) := by decide +kernel
def D_X12_town (N : Nat) (h : mh_H) (l0 : Nat) (l1 : Int32) (l2 : Int32) : Option (Int32 × mh_H) :=
  kO h 12 l0 <|
  (D_X12_isJoint N h l0 l1).bind fun q1 =>
  if q1.1 = 0 then (kO q1.2 12 l0 <|
  (D_X12_error N q1.2 l0 (1 : Int32)).bind fun q2 =>
  some (q2.1, q2.2))
  else (kO q1.2 12 l0 <|
  (D_X12_isSpring N q1.2 l0 l1).bind fun q2 =>
  if q2.1 = 0 then (kO q2.2 12 l0 <|
  (D_X12_error N q2.2 l0 (5 : Int32)).bind fun q3 =>
  some (q3.1, q3.2))
  else ((gR q2.2 12 l0 0).bind fun v3 =>
  (D_X12_joint N q2.2 l1).bind fun q4 =>
  (aI q4.2 v3 (q4.1 + (6 : Int32))).bind fun v5 =>
  (gR q4.2 12 l0 0).bind fun v6 =>
  (D_X12_joint N q4.2 l1).bind fun q7 =>
  if l2 = 0 then ((uI q7.2 v6 (q7.1 + (6 : Int32)) (0 : Int32)).bind fun h8 =>
  some (v5, h8))
  else ((uI q7.2 v6 (q7.1 + (6 : Int32)) (1 : Int32)).bind fun h8 =>
  some (v5, h8))))
set_option maxHeartbeats 4000000 in
set_option maxRecDepth 100000 in
theorem T_X12_town {P : mh_E → Prop} {N d : Nat} (hd : 4 ≤ d) {z : (Int32 × mh_H)} {h : mh_H} {l0 : Nat} {l1 : Int32} {l2 : Int32} (hq : D_X12_town N h l0 l1 l2 = some z) : mh_go P d mX12_town 0 [some (.ref l0), some (.int l1), some (.int l2), none] [] h (some (.int z.1)) z.2 := by
  unfold D_X12_town at hq
  refine st_aload_n (pc := 0) dX12_town_0 rfl ?_
  refine st_iload_n (pc := 1) dX12_town_1 rfl ?_
  obtain ⟨⟨hbq1, hkq1⟩, hq⟩ := mh_oi hq
  obtain ⟨q1, e1, hq⟩ := mh_ob hq
  refine st_invV (pc := 2) (ci := 12) (vs := [.int l1]) (rest := []) (st2 := [.int q1.1]) dX12_town_2 okX12_isJoint (by decide) hkq1 hbq1 wd_1286 wd_1288 wp_38 pdX12_isJoint rfl rfl rfl rfl (Nat.le_trans (by decide) hd) (Nat.le_of_ble_eq_true rfl) (T_X12_isJoint (Nat.le_refl _) e1) rfl ?_
  refine bd_if_ne (pc := 5) (tgt := 14) hq dX12_town_5 (by decide) (fun _ hq => ?_) (fun _ hq => ?_)
  ·
    refine st_aload_n (pc := 8) dX12_town_8 rfl ?_
    refine st_iconst (pc := 9) (v := (1 : Int32)) dX12_town_9 rfl ?_
    obtain ⟨⟨hbq2, hkq2⟩, hq⟩ := mh_oi hq
    obtain ⟨q2, e2, hq⟩ := mh_ob hq
    refine st_invV (pc := 10) (ci := 12) (vs := [.int (1 : Int32)]) (rest := []) (st2 := [.int q2.1]) dX12_town_10 okX12_error (by decide) hkq2 hbq2 wd_1274 wd_1276 wp_37 pdX12_error rfl rfl rfl rfl (Nat.le_trans (by decide) hd) (Nat.le_of_ble_eq_true rfl) (T_X12_error (Nat.le_refl _) e2) rfl ?_
    exact bd_iret (pc := 13) hq dX12_town_13 rfl
  ·
    refine st_aload_n (pc := 14) dX12_town_14 rfl ?_
    refine st_iload_n (pc := 15) dX12_town_15 rfl ?_
    obtain ⟨⟨hbq2, hkq2⟩, hq⟩ := mh_oi hq
    obtain ⟨q2, e2, hq⟩ := mh_ob hq
    refine st_invV (pc := 16) (ci := 12) (vs := [.int l1]) (rest := []) (st2 := [.int q2.1]) dX12_town_16 okX12_isSpring (by decide) hkq2 hbq2 wd_1399 wd_1401 wp_52 pdX12_isSpring rfl rfl rfl rfl (Nat.le_trans (by decide) hd) (Nat.le_of_ble_eq_true rfl) (T_X12_isSpring (Nat.le_refl _) e2) rfl ?_
    refine bd_if_ne (pc := 19) (tgt := 28) hq dX12_town_19 (by decide) (fun _ hq => ?_) (fun _ hq => ?_)
    ·
      refine st_aload_n (pc := 22) dX12_town_22 rfl ?_
      refine st_iconst (pc := 23) (v := (5 : Int32)) dX12_town_23 rfl ?_
      obtain ⟨⟨hbq3, hkq3⟩, hq⟩ := mh_oi hq
      obtain ⟨q3, e3, hq⟩ := mh_ob hq
      refine st_invV (pc := 24) (ci := 12) (vs := [.int (5 : Int32)]) (rest := []) (st2 := [.int q3.1]) dX12_town_24 okX12_error (by decide) hkq3 hbq3 wd_1274 wd_1276 wp_37 pdX12_error rfl rfl rfl rfl (Nat.le_trans (by decide) hd) (Nat.le_of_ble_eq_true rfl) (T_X12_error (Nat.le_refl _) e3) rfl ?_
      exact bd_iret (pc := 27) hq dX12_town_27 rfl
    ·
      refine st_aload_n (pc := 28) dX12_town_28 rfl ?_
      refine bd_getr (pc := 29) hq dX12_town_29 fl_12_9_12 rfl (fun v3 hq => ?_)
      refine st_iload_n (pc := 32) dX12_town_32 rfl ?_
      obtain ⟨q4, e4, hq⟩ := mh_ob hq
      refine st_invS (pc := 33) (Y := mX12_joint) (vs := [.int l1]) (rest := [.ref v3]) (st2 := [.int q4.1, .ref v3]) dX12_town_33 okX12_joint wd_1279 wd_1280 pdX12_joint rfl rfl rfl rfl (Nat.le_trans (by decide) hd) (Nat.le_of_ble_eq_true rfl) (T_X12_joint (Nat.le_refl _) e4) rfl ?_
      refine st_bipush (pc := 36) (v := (6 : Int32)) dX12_town_36 (by decide) ?_
      refine st_iadd (pc := 38) dX12_town_38 ?_
      refine bd_iald (pc := 39) hq dX12_town_39 (fun v5 hq => ?_)
      refine st_istore_n (pc := 40) (lv' := [some (.ref l0), some (.int l1), some (.int l2), some (.int v5)]) dX12_town_40 rfl (by decide) rfl ?_
      refine st_aload_n (pc := 41) dX12_town_41 rfl ?_
      refine bd_getr (pc := 42) hq dX12_town_42 fl_12_9_12 rfl (fun v6 hq => ?_)
      refine st_iload_n (pc := 45) dX12_town_45 rfl ?_
      obtain ⟨q7, e7, hq⟩ := mh_ob hq
      refine st_invS (pc := 46) (Y := mX12_joint) (vs := [.int l1]) (rest := [.ref v6]) (st2 := [.int q7.1, .ref v6]) dX12_town_46 okX12_joint wd_1279 wd_1280 pdX12_joint rfl rfl rfl rfl (Nat.le_trans (by decide) hd) (Nat.le_of_ble_eq_true rfl) (T_X12_joint (Nat.le_refl _) e7) rfl ?_
      refine st_bipush (pc := 49) (v := (6 : Int32)) dX12_town_49 (by decide) ?_
      refine st_iadd (pc := 51) dX12_town_51 ?_
      refine st_iload_n (pc := 52) dX12_town_52 rfl ?_
      refine bd_if_eq (pc := 53) (tgt := 60) hq dX12_town_53 (by decide) (fun _ hq => ?_) (fun _ hq => ?_)
      ·
        refine st_iconst (pc := 60) (v := (0 : Int32)) dX12_town_60 rfl ?_
        refine bd_iast (pc := 61) hq dX12_town_61 (fun h8 hq => ?_)
        refine st_iload_n (pc := 62) dX12_town_62 rfl ?_
        exact bd_iret (pc := 63) hq dX12_town_63 rfl
      ·
        refine st_iconst (pc := 56) (v := (1 : Int32)) dX12_town_56 rfl ?_
        refine st_goto (pc := 57) (tgt := 61) dX12_town_57 (by decide) ?_
        refine bd_iast (pc := 61) hq dX12_town_61 (fun h8 hq => ?_)
        refine st_iload_n (pc := 62) dX12_town_62 rfl ?_
        exact bd_iret (pc := 63) hq dX12_town_63 rfl
-- HoleWaterModel.mayBe(I)Z
theorem dX12_mayBe_61 : decode cX12_mayBe 61 = .ok (.istore_n 2, 1) := by decide +kernel
theorem dX12_mayBe_62 : decode cX12_mayBe 62 = .ok (.iinc 3 1, 3) := by decide +kernel
theorem dX12_mayBe_65 : decode cX12_mayBe 65 = .ok (.goto (-57), 3) := by decide +kernel
theorem dX12_mayBe_56 : decode cX12_mayBe 56 = .ok (.iconst 1, 1) := by decide +kernel
theorem dX12_mayBe_57 : decode cX12_mayBe 57 = .ok (.goto 4, 3) := by decide +kernel
theorem dX12_mayBe_8 : decode cX12_mayBe 8 = .ok (.iload_n 3, 1) := by decide +kernel
theorem dX12_mayBe_9 : decode cX12_mayBe 9 = .ok (.aload_n 0, 1) := by decide +kernel
theorem dX12_mayBe_10 : decode cX12_mayBe 10 = .ok (.getfield 9, 3) := by decide +kernel
theorem dX12_mayBe_13 : decode cX12_mayBe 13 = .ok (.iconst 1, 1) := by decide +kernel
theorem dX12_mayBe_14 : decode cX12_mayBe 14 = .ok (.iaload, 1) := by decide +kernel
theorem dX12_mayBe_15 : decode cX12_mayBe 15 = .ok (.if_icmp .ge 53, 3) := by decide +kernel
theorem dX12_mayBe_68 : decode cX12_mayBe 68 = .ok (.iload_n 2, 1) := by decide +kernel
theorem dX12_mayBe_69 : decode cX12_mayBe 69 = .ok (.ireturn, 1) := by decide +kernel
theorem dX12_mayBe_18 : decode cX12_mayBe 18 = .ok (.iload_n 2, 1) := by decide +kernel
theorem dX12_mayBe_19 : decode cX12_mayBe 19 = .ok (.ifCond .eq 49, 3) := by decide +kernel
theorem dX12_mayBe_22 : decode cX12_mayBe 22 = .ok (.aload_n 0, 1) := by decide +kernel
theorem dX12_mayBe_23 : decode cX12_mayBe 23 = .ok (.iload_n 3, 1) := by decide +kernel
theorem dX12_mayBe_24 : decode cX12_mayBe 24 = .ok (.invokevirtual 126, 3) := by decide +kernel
theorem dX12_mayBe_27 : decode cX12_mayBe 27 = .ok (.ifCond .eq 29, 3) := by decide +kernel
theorem dX12_mayBe_30 : decode cX12_mayBe 30 = .ok (.aload_n 0, 1) := by decide +kernel
theorem dX12_mayBe_31 : decode cX12_mayBe 31 = .ok (.getfield 9, 3) := by decide +kernel
theorem dX12_mayBe_34 : decode cX12_mayBe 34 = .ok (.iload_n 3, 1) := by decide +kernel
theorem dX12_mayBe_35 : decode cX12_mayBe 35 = .ok (.invokestatic 71, 3) := by decide +kernel
theorem dX12_mayBe_38 : decode cX12_mayBe 38 = .ok (.bipush 6, 2) := by decide +kernel
theorem dX12_mayBe_40 : decode cX12_mayBe 40 = .ok (.iadd, 1) := by decide +kernel
theorem dX12_mayBe_41 : decode cX12_mayBe 41 = .ok (.iaload, 1) := by decide +kernel
theorem dX12_mayBe_42 : decode cX12_mayBe 42 = .ok (.ifCond .eq 14, 3) := by decide +kernel
theorem dX12_mayBe_45 : decode cX12_mayBe 45 = .ok (.aload_n 0, 1) := by decide +kernel
theorem dX12_mayBe_46 : decode cX12_mayBe 46 = .ok (.iload_n 1, 1) := by decide +kernel
theorem dX12_mayBe_47 : decode cX12_mayBe 47 = .ok (.iload_n 3, 1) := by decide +kernel
theorem dX12_mayBe_48 : decode cX12_mayBe 48 = .ok (.iconst 0, 1) := by decide +kernel
theorem dX12_mayBe_49 : decode cX12_mayBe 49 = .ok (.invokevirtual 281, 3) := by decide +kernel
theorem dX12_mayBe_52 : decode cX12_mayBe 52 = .ok (.iconst 2, 1) := by decide +kernel
theorem dX12_mayBe_53 : decode cX12_mayBe 53 = .ok (.if_icmp .ge 7, 3) := by decide +kernel
theorem dX12_mayBe_60 : decode cX12_mayBe 60 = .ok (.iconst 0, 1) := by decide +kernel
theorem dX12_mayBe_0 : decode cX12_mayBe 0 = .ok (.aload_n 0, 1) := by decide +kernel
theorem dX12_mayBe_1 : decode cX12_mayBe 1 = .ok (.iload_n 1, 1) := by decide +kernel
theorem dX12_mayBe_2 : decode cX12_mayBe 2 = .ok (.invokevirtual 96, 3) := by decide +kernel
theorem dX12_mayBe_5 : decode cX12_mayBe 5 = .ok (.istore_n 2, 1) := by decide +kernel
theorem dX12_mayBe_6 : decode cX12_mayBe 6 = .ok (.iconst 0, 1) := by decide +kernel
theorem dX12_mayBe_7 : decode cX12_mayBe 7 = .ok (.istore_n 3, 1) := by decide +kernel
def D_X12_mayBe_61 (N : Nat) (k8 : mh_H → Nat → Int32 → Int32 → Int32 → Option (Int32 × mh_H)) (h : mh_H) (l0 : Nat) (l1 : Int32) (l3 : Int32) (s0 : Int32) : Option (Int32 × mh_H) :=
  k8 h l0 l1 s0 (l3 + Int32.ofInt (1))
set_option maxHeartbeats 4000000 in
set_option maxRecDepth 100000 in
theorem T_X12_mayBe_61 {P : mh_E → Prop} {N d : Nat} (hd : 4 ≤ d) {z : (Int32 × mh_H)} {k8 : mh_H → Nat → Int32 → Int32 → Int32 → Option (Int32 × mh_H)} (hk8 : ∀ (h : mh_H) (l0 : Nat) (l1 : Int32) (l2 : Int32) (l3 : Int32), k8 h l0 l1 l2 l3 = some z → mh_go P d mX12_mayBe 8 [some (.ref l0), some (.int l1), some (.int l2), some (.int l3)] [] h (some (.int z.1)) z.2) {h : mh_H} {l0 : Nat} {l1 : Int32} {l3 : Int32} {s0 : Int32} (hq : D_X12_mayBe_61 N k8 h l0 l1 l3 s0 = some z) : mh_go P d mX12_mayBe 61 [some (.ref l0), some (.int l1), none, some (.int l3)] [.int s0] h (some (.int z.1)) z.2 := by
  unfold D_X12_mayBe_61 at hq
  refine st_istore_n (pc := 61) (lv' := [some (.ref l0), some (.int l1), some (.int s0), some (.int l3)]) dX12_mayBe_61 rfl (by decide) rfl ?_
  refine st_iinc (pc := 62) (lv' := [some (.ref l0), some (.int l1), some (.int s0), some (.int (l3 + Int32.ofInt (1)))]) dX12_mayBe_62 rfl rfl (by decide) rfl ?_
  refine st_goto (pc := 65) (tgt := 8) dX12_mayBe_65 (by decide) ?_
  exact hk8 _ _ _ _ _ hq
def D_X12_mayBe_56 (N : Nat) (k8 : mh_H → Nat → Int32 → Int32 → Int32 → Option (Int32 × mh_H)) (h : mh_H) (l0 : Nat) (l1 : Int32) (l3 : Int32) : Option (Int32 × mh_H) :=
  D_X12_mayBe_61 N k8 h l0 l1 l3 (1 : Int32)
set_option maxHeartbeats 4000000 in
set_option maxRecDepth 100000 in
theorem T_X12_mayBe_56 {P : mh_E → Prop} {N d : Nat} (hd : 4 ≤ d) {z : (Int32 × mh_H)} {k8 : mh_H → Nat → Int32 → Int32 → Int32 → Option (Int32 × mh_H)} (hk8 : ∀ (h : mh_H) (l0 : Nat) (l1 : Int32) (l2 : Int32) (l3 : Int32), k8 h l0 l1 l2 l3 = some z → mh_go P d mX12_mayBe 8 [some (.ref l0), some (.int l1), some (.int l2), some (.int l3)] [] h (some (.int z.1)) z.2) {h : mh_H} {l0 : Nat} {l1 : Int32} {l3 : Int32} (hq : D_X12_mayBe_56 N k8 h l0 l1 l3 = some z) : mh_go P d mX12_mayBe 56 [some (.ref l0), some (.int l1), none, some (.int l3)] [] h (some (.int z.1)) z.2 := by
  unfold D_X12_mayBe_56 at hq
  refine st_iconst (pc := 56) (v := (1 : Int32)) dX12_mayBe_56 rfl ?_
  refine st_goto (pc := 57) (tgt := 61) dX12_mayBe_57 (by decide) ?_
  exact T_X12_mayBe_61 hd hk8 hq
def D_X12_mayBe_8 (N : Nat) : Nat → mh_H → Nat → Int32 → Int32 → Int32 → Option (Int32 × mh_H)
  | 0, _, _, _, _, _ => none
  | F + 1, h, l0, l1, l2, l3 =>
    (gR h 12 l0 0).bind fun v1 =>
    (aI h v1 (1 : Int32)).bind fun v2 =>
    if v2 ≤ l3 then (zB l2 h)
    else (if l2 = 0 then (zB l2 h)
    else (kO h 12 l0 <|
    (D_X12_isSpring N h l0 l3).bind fun q3 =>
    if q3.1 = 0 then (D_X12_mayBe_56 N (D_X12_mayBe_8 N F) q3.2 l0 l1 l3)
    else ((gR q3.2 12 l0 0).bind fun v4 =>
    (D_X12_joint N q3.2 l3).bind fun q5 =>
    (aI q5.2 v4 (q5.1 + (6 : Int32))).bind fun v6 =>
    if v6 = 0 then (D_X12_mayBe_56 N (D_X12_mayBe_8 N F) q5.2 l0 l1 l3)
    else (kO q5.2 12 l0 <|
    (D_X12_said N q5.2 l0 l1 l3 (0 : Int32)).bind fun q7 =>
    if (2 : Int32) ≤ q7.1 then (D_X12_mayBe_61 N (D_X12_mayBe_8 N F) q7.2 l0 l1 l3 (0 : Int32))
    else (D_X12_mayBe_56 N (D_X12_mayBe_8 N F) q7.2 l0 l1 l3)))))
set_option maxHeartbeats 4000000 in
set_option maxRecDepth 100000 in
theorem T_X12_mayBe_8 {P : mh_E → Prop} {N d : Nat} (hd : 4 ≤ d) {z : (Int32 × mh_H)} : ∀ (F : Nat) (h : mh_H) (l0 : Nat) (l1 : Int32) (l2 : Int32) (l3 : Int32), D_X12_mayBe_8 N F h l0 l1 l2 l3 = some z → mh_go P d mX12_mayBe 8 [some (.ref l0), some (.int l1), some (.int l2), some (.int l3)] [] h (some (.int z.1)) z.2 := by
  intro F
  induction F with
  | zero => intro h l0 l1 l2 l3 hq; rw [D_X12_mayBe_8] at hq; cases hq
  | succ F ih =>
    intro h l0 l1 l2 l3 hq
    rw [D_X12_mayBe_8] at hq
    refine st_iload_n (pc := 8) dX12_mayBe_8 rfl ?_
    refine st_aload_n (pc := 9) dX12_mayBe_9 rfl ?_
    refine bd_getr (pc := 10) hq dX12_mayBe_10 fl_12_9_12 rfl (fun v1 hq => ?_)
    refine st_iconst (pc := 13) (v := (1 : Int32)) dX12_mayBe_13 rfl ?_
    refine bd_iald (pc := 14) hq dX12_mayBe_14 (fun v2 hq => ?_)
    refine bd_icmp_ge (pc := 15) (tgt := 68) hq dX12_mayBe_15 (by decide) (fun _ hq => ?_) (fun _ hq => ?_)
    ·
      refine st_iload_n (pc := 68) dX12_mayBe_68 rfl ?_
      exact bd_zret (pc := 69) hq dX12_mayBe_69 rfl
    ·
      refine st_iload_n (pc := 18) dX12_mayBe_18 rfl ?_
      refine bd_if_eq (pc := 19) (tgt := 68) hq dX12_mayBe_19 (by decide) (fun _ hq => ?_) (fun _ hq => ?_)
      ·
        refine st_iload_n (pc := 68) dX12_mayBe_68 rfl ?_
        exact bd_zret (pc := 69) hq dX12_mayBe_69 rfl
      ·
        refine st_aload_n (pc := 22) dX12_mayBe_22 rfl ?_
        refine st_iload_n (pc := 23) dX12_mayBe_23 rfl ?_
        obtain ⟨⟨hbq3, hkq3⟩, hq⟩ := mh_oi hq
        obtain ⟨q3, e3, hq⟩ := mh_ob hq
        refine st_invV (pc := 24) (ci := 12) (vs := [.int l3]) (rest := []) (st2 := [.int q3.1]) dX12_mayBe_24 okX12_isSpring (by decide) hkq3 hbq3 wd_1399 wd_1401 wp_52 pdX12_isSpring rfl rfl rfl rfl (Nat.le_trans (by decide) hd) (Nat.le_of_ble_eq_true rfl) (T_X12_isSpring (Nat.le_refl _) e3) rfl ?_
        refine bd_if_eq (pc := 27) (tgt := 56) hq dX12_mayBe_27 (by decide) (fun _ hq => ?_) (fun _ hq => ?_)
        ·
          refine st_lesS (lv' := [some (.ref l0), some (.int l1), none, some (.int l3)]) ⟨Or.inr rfl, Or.inr rfl, Or.inl rfl, Or.inr rfl, trivial⟩ ?_
          exact T_X12_mayBe_56 hd ih hq
        ·
          refine st_aload_n (pc := 30) dX12_mayBe_30 rfl ?_
          refine bd_getr (pc := 31) hq dX12_mayBe_31 fl_12_9_12 rfl (fun v4 hq => ?_)
          refine st_iload_n (pc := 34) dX12_mayBe_34 rfl ?_
          obtain ⟨q5, e5, hq⟩ := mh_ob hq
          refine st_invS (pc := 35) (Y := mX12_joint) (vs := [.int l3]) (rest := [.ref v4]) (st2 := [.int q5.1, .ref v4]) dX12_mayBe_35 okX12_joint wd_1279 wd_1280 pdX12_joint rfl rfl rfl rfl (Nat.le_trans (by decide) hd) (Nat.le_of_ble_eq_true rfl) (T_X12_joint (Nat.le_refl _) e5) rfl ?_
          refine st_bipush (pc := 38) (v := (6 : Int32)) dX12_mayBe_38 (by decide) ?_
          refine st_iadd (pc := 40) dX12_mayBe_40 ?_
          refine bd_iald (pc := 41) hq dX12_mayBe_41 (fun v6 hq => ?_)
          refine bd_if_eq (pc := 42) (tgt := 56) hq dX12_mayBe_42 (by decide) (fun _ hq => ?_) (fun _ hq => ?_)
          ·
            refine st_lesS (lv' := [some (.ref l0), some (.int l1), none, some (.int l3)]) ⟨Or.inr rfl, Or.inr rfl, Or.inl rfl, Or.inr rfl, trivial⟩ ?_
            exact T_X12_mayBe_56 hd ih hq
          ·
            refine st_aload_n (pc := 45) dX12_mayBe_45 rfl ?_
            refine st_iload_n (pc := 46) dX12_mayBe_46 rfl ?_
            refine st_iload_n (pc := 47) dX12_mayBe_47 rfl ?_
            refine st_iconst (pc := 48) (v := (0 : Int32)) dX12_mayBe_48 rfl ?_
            obtain ⟨⟨hbq7, hkq7⟩, hq⟩ := mh_oi hq
            obtain ⟨q7, e7, hq⟩ := mh_ob hq
            refine st_invV (pc := 49) (ci := 12) (vs := [.int l1, .int l3, .int (0 : Int32)]) (rest := []) (st2 := [.int q7.1]) dX12_mayBe_49 okX12_said (by decide) hkq7 hbq7 wd_1577 wd_1579 wp_77 pdX12_said rfl rfl rfl rfl (Nat.le_trans (by decide) hd) (Nat.le_of_ble_eq_true rfl) (T_X12_said (Nat.le_refl _) e7) rfl ?_
            refine st_iconst (pc := 52) (v := (2 : Int32)) dX12_mayBe_52 rfl ?_
            refine bd_icmp_ge (pc := 53) (tgt := 60) hq dX12_mayBe_53 (by decide) (fun _ hq => ?_) (fun _ hq => ?_)
            ·
              refine st_iconst (pc := 60) (v := (0 : Int32)) dX12_mayBe_60 rfl ?_
              refine st_lesS (lv' := [some (.ref l0), some (.int l1), none, some (.int l3)]) ⟨Or.inr rfl, Or.inr rfl, Or.inl rfl, Or.inr rfl, trivial⟩ ?_
              exact T_X12_mayBe_61 hd ih hq
            ·
              refine st_lesS (lv' := [some (.ref l0), some (.int l1), none, some (.int l3)]) ⟨Or.inr rfl, Or.inr rfl, Or.inl rfl, Or.inr rfl, trivial⟩ ?_
              exact T_X12_mayBe_56 hd ih hq
def D_X12_mayBe (N : Nat) (h : mh_H) (l0 : Nat) (l1 : Int32) : Option (Int32 × mh_H) :=
  kO h 12 l0 <|
  (D_X12_isHole N h l0 l1).bind fun q1 =>
  D_X12_mayBe_8 N N q1.2 l0 l1 q1.1 (0 : Int32)
set_option maxHeartbeats 4000000 in
set_option maxRecDepth 100000 in
theorem T_X12_mayBe {P : mh_E → Prop} {N d : Nat} (hd : 4 ≤ d) {z : (Int32 × mh_H)} {h : mh_H} {l0 : Nat} {l1 : Int32} (hq : D_X12_mayBe N h l0 l1 = some z) : mh_go P d mX12_mayBe 0 [some (.ref l0), some (.int l1), none, none] [] h (some (.int z.1)) z.2 := by
  unfold D_X12_mayBe at hq
  refine st_aload_n (pc := 0) dX12_mayBe_0 rfl ?_
  refine st_iload_n (pc := 1) dX12_mayBe_1 rfl ?_
  obtain ⟨⟨hbq1, hkq1⟩, hq⟩ := mh_oi hq
  obtain ⟨q1, e1, hq⟩ := mh_ob hq
  refine st_invV (pc := 2) (ci := 12) (vs := [.int l1]) (rest := []) (st2 := [.int q1.1]) dX12_mayBe_2 okX12_isHole (by decide) hkq1 hbq1 wd_1305 wd_1307 wp_41 pdX12_isHole rfl rfl rfl rfl (Nat.le_trans (by decide) hd) (Nat.le_of_ble_eq_true rfl) (T_X12_isHole (Nat.le_refl _) e1) rfl ?_
  refine st_istore_n (pc := 5) (lv' := [some (.ref l0), some (.int l1), some (.int q1.1), none]) dX12_mayBe_5 rfl (by decide) rfl ?_
  refine st_iconst (pc := 6) (v := (0 : Int32)) dX12_mayBe_6 rfl ?_
  refine st_istore_n (pc := 7) (lv' := [some (.ref l0), some (.int l1), some (.int q1.1), some (.int (0 : Int32))]) dX12_mayBe_7 rfl (by decide) rfl ?_
  exact T_X12_mayBe_8 hd N _ _ _ _ _ hq
-- HoleWaterModel.night(III)I
theorem dX12_night_36 : decode cX12_night 36 = .ok (.aload_n 0, 1) := by decide +kernel
theorem dX12_night_37 : decode cX12_night 37 = .ok (.iconst 1, 1) := by decide +kernel
theorem dX12_night_38 : decode cX12_night 38 = .ok (.invokevirtual 80, 3) := by decide +kernel
theorem dX12_night_41 : decode cX12_night 41 = .ok (.ireturn, 1) := by decide +kernel
theorem dX12_night_103 : decode cX12_night 103 = .ok (.ior, 1) := by decide +kernel
theorem dX12_night_104 : decode cX12_night 104 = .ok (.istore 5, 2) := by decide +kernel
theorem dX12_night_106 : decode cX12_night 106 = .ok (.iinc 6 1, 3) := by decide +kernel
theorem dX12_night_109 : decode cX12_night 109 = .ok (.goto (-58), 3) := by decide +kernel
theorem dX12_night_81 : decode cX12_night 81 = .ok (.ior, 1) := by decide +kernel
theorem dX12_night_82 : decode cX12_night 82 = .ok (.istore 4, 2) := by decide +kernel
theorem dX12_night_84 : decode cX12_night 84 = .ok (.iload 5, 2) := by decide +kernel
theorem dX12_night_86 : decode cX12_night 86 = .ok (.aload_n 0, 1) := by decide +kernel
theorem dX12_night_87 : decode cX12_night 87 = .ok (.iload 6, 2) := by decide +kernel
theorem dX12_night_89 : decode cX12_night 89 = .ok (.invokevirtual 126, 3) := by decide +kernel
theorem dX12_night_92 : decode cX12_night 92 = .ok (.ifCond .eq 10, 3) := by decide +kernel
theorem dX12_night_102 : decode cX12_night 102 = .ok (.iconst 0, 1) := by decide +kernel
theorem dX12_night_95 : decode cX12_night 95 = .ok (.iconst 1, 1) := by decide +kernel
theorem dX12_night_96 : decode cX12_night 96 = .ok (.iload 6, 2) := by decide +kernel
theorem dX12_night_98 : decode cX12_night 98 = .ok (.ishl, 1) := by decide +kernel
theorem dX12_night_99 : decode cX12_night 99 = .ok (.goto 4, 3) := by decide +kernel
theorem dX12_night_130 : decode cX12_night 130 = .ok (.aload_n 0, 1) := by decide +kernel
theorem dX12_night_131 : decode cX12_night 131 = .ok (.iconst 2, 1) := by decide +kernel
theorem dX12_night_132 : decode cX12_night 132 = .ok (.invokevirtual 80, 3) := by decide +kernel
theorem dX12_night_135 : decode cX12_night 135 = .ok (.ireturn, 1) := by decide +kernel
theorem dX12_night_220 : decode cX12_night 220 = .ok (.ior, 1) := by decide +kernel
theorem dX12_night_221 : decode cX12_night 221 = .ok (.iastore, 1) := by decide +kernel
theorem dX12_night_222 : decode cX12_night 222 = .ok (.iinc 7 1, 3) := by decide +kernel
theorem dX12_night_225 : decode cX12_night 225 = .ok (.goto (-64), 3) := by decide +kernel
theorem dX12_night_219 : decode cX12_night 219 = .ok (.iconst 0, 1) := by decide +kernel
theorem dX12_night_228 : decode cX12_night 228 = .ok (.iinc 6 1, 3) := by decide +kernel
theorem dX12_night_231 : decode cX12_night 231 = .ok (.goto (-92), 3) := by decide +kernel
theorem dX12_night_161 : decode cX12_night 161 = .ok (.iload 7, 2) := by decide +kernel
theorem dX12_night_163 : decode cX12_night 163 = .ok (.aload_n 0, 1) := by decide +kernel
theorem dX12_night_164 : decode cX12_night 164 = .ok (.getfield 9, 3) := by decide +kernel
theorem dX12_night_167 : decode cX12_night 167 = .ok (.iconst 1, 1) := by decide +kernel
theorem dX12_night_168 : decode cX12_night 168 = .ok (.iaload, 1) := by decide +kernel
theorem dX12_night_169 : decode cX12_night 169 = .ok (.if_icmp .ge 59, 3) := by decide +kernel
theorem dX12_night_172 : decode cX12_night 172 = .ok (.iload 4, 2) := by decide +kernel
theorem dX12_night_174 : decode cX12_night 174 = .ok (.iload 6, 2) := by decide +kernel
theorem dX12_night_176 : decode cX12_night 176 = .ok (.ishr, 1) := by decide +kernel
theorem dX12_night_177 : decode cX12_night 177 = .ok (.iconst 1, 1) := by decide +kernel
theorem dX12_night_178 : decode cX12_night 178 = .ok (.iand, 1) := by decide +kernel
theorem dX12_night_179 : decode cX12_night 179 = .ok (.iconst 1, 1) := by decide +kernel
theorem dX12_night_180 : decode cX12_night 180 = .ok (.if_icmp .ne 48, 3) := by decide +kernel
theorem dX12_night_183 : decode cX12_night 183 = .ok (.aload_n 0, 1) := by decide +kernel
theorem dX12_night_184 : decode cX12_night 184 = .ok (.getfield 49, 3) := by decide +kernel
theorem dX12_night_187 : decode cX12_night 187 = .ok (.iload 6, 2) := by decide +kernel
theorem dX12_night_189 : decode cX12_night 189 = .ok (.dup2, 1) := by decide +kernel
theorem dX12_night_190 : decode cX12_night 190 = .ok (.iaload, 1) := by decide +kernel
theorem dX12_night_191 : decode cX12_night 191 = .ok (.aload_n 0, 1) := by decide +kernel
theorem dX12_night_192 : decode cX12_night 192 = .ok (.iload 7, 2) := by decide +kernel
theorem dX12_night_194 : decode cX12_night 194 = .ok (.invokevirtual 126, 3) := by decide +kernel
theorem dX12_night_197 : decode cX12_night 197 = .ok (.ifCond .eq 22, 3) := by decide +kernel
theorem dX12_night_200 : decode cX12_night 200 = .ok (.aload_n 0, 1) := by decide +kernel
theorem dX12_night_201 : decode cX12_night 201 = .ok (.iload 6, 2) := by decide +kernel
theorem dX12_night_203 : decode cX12_night 203 = .ok (.iload 7, 2) := by decide +kernel
theorem dX12_night_205 : decode cX12_night 205 = .ok (.iconst 0, 1) := by decide +kernel
theorem dX12_night_206 : decode cX12_night 206 = .ok (.invokevirtual 281, 3) := by decide +kernel
theorem dX12_night_209 : decode cX12_night 209 = .ok (.ifCond .ne 10, 3) := by decide +kernel
theorem dX12_night_212 : decode cX12_night 212 = .ok (.iconst 1, 1) := by decide +kernel
theorem dX12_night_213 : decode cX12_night 213 = .ok (.iload 7, 2) := by decide +kernel
theorem dX12_night_215 : decode cX12_night 215 = .ok (.ishl, 1) := by decide +kernel
theorem dX12_night_216 : decode cX12_night 216 = .ok (.goto 4, 3) := by decide +kernel
theorem dX12_night_384 : decode cX12_night 384 = .ok (.iload 9, 2) := by decide +kernel
theorem dX12_night_386 : decode cX12_night 386 = .ok (.iload 4, 2) := by decide +kernel
theorem dX12_night_388 : decode cX12_night 388 = .ok (.isub, 1) := by decide +kernel
theorem dX12_night_389 : decode cX12_night 389 = .ok (.iload 4, 2) := by decide +kernel
theorem dX12_night_391 : decode cX12_night 391 = .ok (.iand, 1) := by decide +kernel
theorem dX12_night_392 : decode cX12_night 392 = .ok (.istore 9, 2) := by decide +kernel
theorem dX12_night_394 : decode cX12_night 394 = .ok (.goto (-143), 3) := by decide +kernel
theorem dX12_night_371 : decode cX12_night 371 = .ok (.iload 10, 2) := by decide +kernel
theorem dX12_night_373 : decode cX12_night 373 = .ok (.iload 5, 2) := by decide +kernel
theorem dX12_night_375 : decode cX12_night 375 = .ok (.isub, 1) := by decide +kernel
theorem dX12_night_376 : decode cX12_night 376 = .ok (.iload 5, 2) := by decide +kernel
theorem dX12_night_378 : decode cX12_night 378 = .ok (.iand, 1) := by decide +kernel
theorem dX12_night_379 : decode cX12_night 379 = .ok (.istore 10, 2) := by decide +kernel
theorem dX12_night_381 : decode cX12_night 381 = .ok (.goto (-105), 3) := by decide +kernel
theorem dX12_night_340 : decode cX12_night 340 = .ok (.iadd, 1) := by decide +kernel
theorem dX12_night_341 : decode cX12_night 341 = .ok (.istore 11, 2) := by decide +kernel
theorem dX12_night_343 : decode cX12_night 343 = .ok (.iinc 12 1, 3) := by decide +kernel
theorem dX12_night_346 : decode cX12_night 346 = .ok (.goto (-47), 3) := by decide +kernel
theorem dX12_night_299 : decode cX12_night 299 = .ok (.iload 12, 2) := by decide +kernel
theorem dX12_night_301 : decode cX12_night 301 = .ok (.aload_n 0, 1) := by decide +kernel
theorem dX12_night_302 : decode cX12_night 302 = .ok (.getfield 9, 3) := by decide +kernel
theorem dX12_night_305 : decode cX12_night 305 = .ok (.iconst 1, 1) := by decide +kernel
theorem dX12_night_306 : decode cX12_night 306 = .ok (.iaload, 1) := by decide +kernel
theorem dX12_night_307 : decode cX12_night 307 = .ok (.if_icmp .ge 42, 3) := by decide +kernel
theorem dX12_night_349 : decode cX12_night 349 = .ok (.iload 11, 2) := by decide +kernel
theorem dX12_night_351 : decode cX12_night 351 = .ok (.iload 6, 2) := by decide +kernel
theorem dX12_night_353 : decode cX12_night 353 = .ok (.if_icmp .gt 6, 3) := by decide +kernel
theorem dX12_night_359 : decode cX12_night 359 = .ok (.iload 11, 2) := by decide +kernel
theorem dX12_night_361 : decode cX12_night 361 = .ok (.istore 6, 2) := by decide +kernel
theorem dX12_night_363 : decode cX12_night 363 = .ok (.iload 9, 2) := by decide +kernel
theorem dX12_night_365 : decode cX12_night 365 = .ok (.istore 7, 2) := by decide +kernel
theorem dX12_night_367 : decode cX12_night 367 = .ok (.iload 10, 2) := by decide +kernel
theorem dX12_night_369 : decode cX12_night 369 = .ok (.istore 8, 2) := by decide +kernel
theorem dX12_night_356 : decode cX12_night 356 = .ok (.goto 15, 3) := by decide +kernel
theorem dX12_night_310 : decode cX12_night 310 = .ok (.iload 11, 2) := by decide +kernel
theorem dX12_night_312 : decode cX12_night 312 = .ok (.iload 9, 2) := by decide +kernel
theorem dX12_night_314 : decode cX12_night 314 = .ok (.iload 12, 2) := by decide +kernel
theorem dX12_night_316 : decode cX12_night 316 = .ok (.ishr, 1) := by decide +kernel
theorem dX12_night_317 : decode cX12_night 317 = .ok (.iconst 1, 1) := by decide +kernel
theorem dX12_night_318 : decode cX12_night 318 = .ok (.iand, 1) := by decide +kernel
theorem dX12_night_319 : decode cX12_night 319 = .ok (.iconst 1, 1) := by decide +kernel
theorem dX12_night_320 : decode cX12_night 320 = .ok (.if_icmp .ne 19, 3) := by decide +kernel
theorem dX12_night_323 : decode cX12_night 323 = .ok (.aload_n 0, 1) := by decide +kernel
theorem dX12_night_324 : decode cX12_night 324 = .ok (.getfield 49, 3) := by decide +kernel
theorem dX12_night_327 : decode cX12_night 327 = .ok (.iload 12, 2) := by decide +kernel
theorem dX12_night_329 : decode cX12_night 329 = .ok (.iaload, 1) := by decide +kernel
theorem dX12_night_330 : decode cX12_night 330 = .ok (.iload 10, 2) := by decide +kernel
theorem dX12_night_332 : decode cX12_night 332 = .ok (.iand, 1) := by decide +kernel
theorem dX12_night_333 : decode cX12_night 333 = .ok (.invokestatic 294, 3) := by decide +kernel
theorem dX12_night_336 : decode cX12_night 336 = .ok (.goto 4, 3) := by decide +kernel
theorem dX12_night_339 : decode cX12_night 339 = .ok (.iconst 0, 1) := by decide +kernel
theorem dX12_night_276 : decode cX12_night 276 = .ok (.iload 10, 2) := by decide +kernel
theorem dX12_night_278 : decode cX12_night 278 = .ok (.ifCond .eq 106, 3) := by decide +kernel
theorem dX12_night_281 : decode cX12_night 281 = .ok (.iload 10, 2) := by decide +kernel
theorem dX12_night_283 : decode cX12_night 283 = .ok (.invokestatic 294, 3) := by decide +kernel
theorem dX12_night_286 : decode cX12_night 286 = .ok (.iload_n 2, 1) := by decide +kernel
theorem dX12_night_287 : decode cX12_night 287 = .ok (.if_icmp .eq 6, 3) := by decide +kernel
theorem dX12_night_293 : decode cX12_night 293 = .ok (.iconst 0, 1) := by decide +kernel
theorem dX12_night_294 : decode cX12_night 294 = .ok (.istore 11, 2) := by decide +kernel
theorem dX12_night_296 : decode cX12_night 296 = .ok (.iconst 0, 1) := by decide +kernel
theorem dX12_night_297 : decode cX12_night 297 = .ok (.istore 12, 2) := by decide +kernel
theorem dX12_night_290 : decode cX12_night 290 = .ok (.goto 81, 3) := by decide +kernel
theorem dX12_night_251 : decode cX12_night 251 = .ok (.iload 9, 2) := by decide +kernel
theorem dX12_night_253 : decode cX12_night 253 = .ok (.ifCond .eq 144, 3) := by decide +kernel
theorem dX12_night_397 : decode cX12_night 397 = .ok (.iload_n 3, 1) := by decide +kernel
theorem dX12_night_398 : decode cX12_night 398 = .ok (.ifCond .ne 8, 3) := by decide +kernel
theorem dX12_night_401 : decode cX12_night 401 = .ok (.iload 6, 2) := by decide +kernel
theorem dX12_night_403 : decode cX12_night 403 = .ok (.goto 15, 3) := by decide +kernel
theorem dX12_night_418 : decode cX12_night 418 = .ok (.ireturn, 1) := by decide +kernel
theorem dX12_night_406 : decode cX12_night 406 = .ok (.iload_n 3, 1) := by decide +kernel
theorem dX12_night_407 : decode cX12_night 407 = .ok (.iconst 1, 1) := by decide +kernel
theorem dX12_night_408 : decode cX12_night 408 = .ok (.if_icmp .ne 8, 3) := by decide +kernel
theorem dX12_night_411 : decode cX12_night 411 = .ok (.iload 7, 2) := by decide +kernel
theorem dX12_night_413 : decode cX12_night 413 = .ok (.goto 5, 3) := by decide +kernel
theorem dX12_night_416 : decode cX12_night 416 = .ok (.iload 8, 2) := by decide +kernel
theorem dX12_night_256 : decode cX12_night 256 = .ok (.iload 9, 2) := by decide +kernel
theorem dX12_night_258 : decode cX12_night 258 = .ok (.invokestatic 294, 3) := by decide +kernel
theorem dX12_night_261 : decode cX12_night 261 = .ok (.iload_n 1, 1) := by decide +kernel
theorem dX12_night_262 : decode cX12_night 262 = .ok (.if_icmp .eq 6, 3) := by decide +kernel
theorem dX12_night_268 : decode cX12_night 268 = .ok (.iload 5, 2) := by decide +kernel
theorem dX12_night_270 : decode cX12_night 270 = .ok (.iload 5, 2) := by decide +kernel
theorem dX12_night_272 : decode cX12_night 272 = .ok (.ineg, 1) := by decide +kernel
theorem dX12_night_273 : decode cX12_night 273 = .ok (.iand, 1) := by decide +kernel
theorem dX12_night_274 : decode cX12_night 274 = .ok (.istore 10, 2) := by decide +kernel
theorem dX12_night_265 : decode cX12_night 265 = .ok (.goto 119, 3) := by decide +kernel
theorem dX12_night_139 : decode cX12_night 139 = .ok (.iload 6, 2) := by decide +kernel
theorem dX12_night_141 : decode cX12_night 141 = .ok (.aload_n 0, 1) := by decide +kernel
theorem dX12_night_142 : decode cX12_night 142 = .ok (.getfield 9, 3) := by decide +kernel
theorem dX12_night_145 : decode cX12_night 145 = .ok (.iconst 1, 1) := by decide +kernel
theorem dX12_night_146 : decode cX12_night 146 = .ok (.iaload, 1) := by decide +kernel
theorem dX12_night_147 : decode cX12_night 147 = .ok (.if_icmp .ge 87, 3) := by decide +kernel
theorem dX12_night_234 : decode cX12_night 234 = .ok (.iconst (-1), 1) := by decide +kernel
theorem dX12_night_235 : decode cX12_night 235 = .ok (.istore 6, 2) := by decide +kernel
theorem dX12_night_237 : decode cX12_night 237 = .ok (.iconst 0, 1) := by decide +kernel
theorem dX12_night_238 : decode cX12_night 238 = .ok (.istore 7, 2) := by decide +kernel
theorem dX12_night_240 : decode cX12_night 240 = .ok (.iconst 0, 1) := by decide +kernel
theorem dX12_night_241 : decode cX12_night 241 = .ok (.istore 8, 2) := by decide +kernel
theorem dX12_night_243 : decode cX12_night 243 = .ok (.iload 4, 2) := by decide +kernel
theorem dX12_night_245 : decode cX12_night 245 = .ok (.iload 4, 2) := by decide +kernel
theorem dX12_night_247 : decode cX12_night 247 = .ok (.ineg, 1) := by decide +kernel
theorem dX12_night_248 : decode cX12_night 248 = .ok (.iand, 1) := by decide +kernel
theorem dX12_night_249 : decode cX12_night 249 = .ok (.istore 9, 2) := by decide +kernel
theorem dX12_night_150 : decode cX12_night 150 = .ok (.aload_n 0, 1) := by decide +kernel
theorem dX12_night_151 : decode cX12_night 151 = .ok (.getfield 49, 3) := by decide +kernel
theorem dX12_night_154 : decode cX12_night 154 = .ok (.iload 6, 2) := by decide +kernel
theorem dX12_night_156 : decode cX12_night 156 = .ok (.iconst 0, 1) := by decide +kernel
theorem dX12_night_157 : decode cX12_night 157 = .ok (.iastore, 1) := by decide +kernel
theorem dX12_night_158 : decode cX12_night 158 = .ok (.iconst 0, 1) := by decide +kernel
theorem dX12_night_159 : decode cX12_night 159 = .ok (.istore 7, 2) := by decide +kernel
theorem dX12_night_51 : decode cX12_night 51 = .ok (.iload 6, 2) := by decide +kernel
theorem dX12_night_53 : decode cX12_night 53 = .ok (.aload_n 0, 1) := by decide +kernel
theorem dX12_night_54 : decode cX12_night 54 = .ok (.getfield 9, 3) := by decide +kernel
theorem dX12_night_57 : decode cX12_night 57 = .ok (.iconst 1, 1) := by decide +kernel
theorem dX12_night_58 : decode cX12_night 58 = .ok (.iaload, 1) := by decide +kernel
theorem dX12_night_59 : decode cX12_night 59 = .ok (.if_icmp .ge 53, 3) := by decide +kernel
theorem dX12_night_112 : decode cX12_night 112 = .ok (.iload 4, 2) := by decide +kernel
theorem dX12_night_114 : decode cX12_night 114 = .ok (.invokestatic 294, 3) := by decide +kernel
theorem dX12_night_117 : decode cX12_night 117 = .ok (.iload_n 1, 1) := by decide +kernel
theorem dX12_night_118 : decode cX12_night 118 = .ok (.if_icmp .lt 12, 3) := by decide +kernel
theorem dX12_night_121 : decode cX12_night 121 = .ok (.iload 5, 2) := by decide +kernel
theorem dX12_night_123 : decode cX12_night 123 = .ok (.invokestatic 294, 3) := by decide +kernel
theorem dX12_night_126 : decode cX12_night 126 = .ok (.iload_n 2, 1) := by decide +kernel
theorem dX12_night_127 : decode cX12_night 127 = .ok (.if_icmp .ge 9, 3) := by decide +kernel
theorem dX12_night_136 : decode cX12_night 136 = .ok (.iconst 0, 1) := by decide +kernel
theorem dX12_night_137 : decode cX12_night 137 = .ok (.istore 6, 2) := by decide +kernel
theorem dX12_night_62 : decode cX12_night 62 = .ok (.iload 4, 2) := by decide +kernel
theorem dX12_night_64 : decode cX12_night 64 = .ok (.aload_n 0, 1) := by decide +kernel
theorem dX12_night_65 : decode cX12_night 65 = .ok (.iload 6, 2) := by decide +kernel
theorem dX12_night_67 : decode cX12_night 67 = .ok (.invokevirtual 303, 3) := by decide +kernel
theorem dX12_night_70 : decode cX12_night 70 = .ok (.ifCond .eq 10, 3) := by decide +kernel
theorem dX12_night_80 : decode cX12_night 80 = .ok (.iconst 0, 1) := by decide +kernel
theorem dX12_night_73 : decode cX12_night 73 = .ok (.iconst 1, 1) := by decide +kernel
theorem dX12_night_74 : decode cX12_night 74 = .ok (.iload 6, 2) := by decide +kernel
theorem dX12_night_76 : decode cX12_night 76 = .ok (.ishl, 1) := by decide +kernel
theorem dX12_night_77 : decode cX12_night 77 = .ok (.goto 4, 3) := by decide +kernel
theorem dX12_night_0 : decode cX12_night 0 = .ok (.iload_n 1, 1) := by decide +kernel
theorem dX12_night_1 : decode cX12_night 1 = .ok (.i2l, 1) := by decide +kernel
theorem dX12_night_2 : decode cX12_night 2 = .ok (.lconst 1, 1) := by decide +kernel
theorem dX12_night_3 : decode cX12_night 3 = .ok (.ldc2_w 301, 3) := by decide +kernel
theorem dX12_night_6 : decode cX12_night 6 = .ok (.invokestatic 65, 3) := by decide +kernel
theorem dX12_night_9 : decode cX12_night 9 = .ok (.ifCond .eq 27, 3) := by decide +kernel
theorem dX12_night_12 : decode cX12_night 12 = .ok (.iload_n 2, 1) := by decide +kernel
theorem dX12_night_13 : decode cX12_night 13 = .ok (.i2l, 1) := by decide +kernel
theorem dX12_night_14 : decode cX12_night 14 = .ok (.lconst 1, 1) := by decide +kernel
theorem dX12_night_15 : decode cX12_night 15 = .ok (.ldc2_w 87, 3) := by decide +kernel
theorem dX12_night_18 : decode cX12_night 18 = .ok (.invokestatic 65, 3) := by decide +kernel
theorem dX12_night_21 : decode cX12_night 21 = .ok (.ifCond .eq 15, 3) := by decide +kernel
theorem dX12_night_24 : decode cX12_night 24 = .ok (.iload_n 3, 1) := by decide +kernel
theorem dX12_night_25 : decode cX12_night 25 = .ok (.i2l, 1) := by decide +kernel
theorem dX12_night_26 : decode cX12_night 26 = .ok (.lconst 0, 1) := by decide +kernel
theorem dX12_night_27 : decode cX12_night 27 = .ok (.ldc2_w 276, 3) := by decide +kernel
theorem dX12_night_30 : decode cX12_night 30 = .ok (.invokestatic 65, 3) := by decide +kernel
theorem dX12_night_33 : decode cX12_night 33 = .ok (.ifCond .ne 9, 3) := by decide +kernel
theorem dX12_night_42 : decode cX12_night 42 = .ok (.iconst 0, 1) := by decide +kernel
theorem dX12_night_43 : decode cX12_night 43 = .ok (.istore 4, 2) := by decide +kernel
theorem dX12_night_45 : decode cX12_night 45 = .ok (.iconst 0, 1) := by decide +kernel
theorem dX12_night_46 : decode cX12_night 46 = .ok (.istore 5, 2) := by decide +kernel
theorem dX12_night_48 : decode cX12_night 48 = .ok (.iconst 0, 1) := by decide +kernel
theorem dX12_night_49 : decode cX12_night 49 = .ok (.istore 6, 2) := by decide +kernel
def D_X12_night_36 (N : Nat) (h : mh_H) (l0 : Nat) : Option (Int32 × mh_H) :=
  kO h 12 l0 <|
  (D_X12_error N h l0 (1 : Int32)).bind fun q1 =>
  some (q1.1, q1.2)
set_option maxHeartbeats 4000000 in
set_option maxRecDepth 100000 in
theorem T_X12_night_36 {P : mh_E → Prop} {N d : Nat} (hd : 5 ≤ d) {z : (Int32 × mh_H)} {h : mh_H} {l0 : Nat} (hq : D_X12_night_36 N h l0 = some z) : mh_go P d mX12_night 36 [some (.ref l0), none, none, none, none, none, none, none, none, none, none, none, none] [] h (some (.int z.1)) z.2 := by
  unfold D_X12_night_36 at hq
  refine st_aload_n (pc := 36) dX12_night_36 rfl ?_
  refine st_iconst (pc := 37) (v := (1 : Int32)) dX12_night_37 rfl ?_
  obtain ⟨⟨hbq1, hkq1⟩, hq⟩ := mh_oi hq
  obtain ⟨q1, e1, hq⟩ := mh_ob hq
  refine st_invV (pc := 38) (ci := 12) (vs := [.int (1 : Int32)]) (rest := []) (st2 := [.int q1.1]) dX12_night_38 okX12_error (by decide) hkq1 hbq1 wd_1274 wd_1276 wp_37 pdX12_error rfl rfl rfl rfl (Nat.le_trans (by decide) hd) (Nat.le_of_ble_eq_true rfl) (T_X12_error (Nat.le_refl _) e1) rfl ?_
  exact bd_iret (pc := 41) hq dX12_night_41 rfl
def D_X12_night_103 (N : Nat) (k51 : mh_H → Nat → Int32 → Int32 → Int32 → Int32 → Int32 → Int32 → Option (Int32 × mh_H)) (h : mh_H) (l0 : Nat) (l1 : Int32) (l2 : Int32) (l3 : Int32) (l4 : Int32) (l6 : Int32) (s0 : Int32) (s1 : Int32) : Option (Int32 × mh_H) :=
  k51 h l0 l1 l2 l3 l4 (s0 ||| s1) (l6 + Int32.ofInt (1))
set_option maxHeartbeats 4000000 in
set_option maxRecDepth 100000 in
theorem T_X12_night_103 {P : mh_E → Prop} {N d : Nat} (hd : 5 ≤ d) {z : (Int32 × mh_H)} {k51 : mh_H → Nat → Int32 → Int32 → Int32 → Int32 → Int32 → Int32 → Option (Int32 × mh_H)} (hk51 : ∀ (h : mh_H) (l0 : Nat) (l1 : Int32) (l2 : Int32) (l3 : Int32) (l4 : Int32) (l5 : Int32) (l6 : Int32), k51 h l0 l1 l2 l3 l4 l5 l6 = some z → mh_go P d mX12_night 51 [some (.ref l0), some (.int l1), some (.int l2), some (.int l3), some (.int l4), some (.int l5), some (.int l6), none, none, none, none, none, none] [] h (some (.int z.1)) z.2) {h : mh_H} {l0 : Nat} {l1 : Int32} {l2 : Int32} {l3 : Int32} {l4 : Int32} {l6 : Int32} {s0 : Int32} {s1 : Int32} (hq : D_X12_night_103 N k51 h l0 l1 l2 l3 l4 l6 s0 s1 = some z) : mh_go P d mX12_night 103 [some (.ref l0), some (.int l1), some (.int l2), some (.int l3), some (.int l4), none, some (.int l6), none, none, none, none, none, none] [.int s1, .int s0] h (some (.int z.1)) z.2 := by
  unfold D_X12_night_103 at hq
  refine st_ior (pc := 103) dX12_night_103 ?_
  refine st_istore (pc := 104) (lv' := [some (.ref l0), some (.int l1), some (.int l2), some (.int l3), some (.int l4), some (.int (s0 ||| s1)), some (.int l6), none, none, none, none, none, none]) dX12_night_104 rfl (by decide) rfl ?_
  refine st_iinc (pc := 106) (lv' := [some (.ref l0), some (.int l1), some (.int l2), some (.int l3), some (.int l4), some (.int (s0 ||| s1)), some (.int (l6 + Int32.ofInt (1))), none, none, none, none, none, none]) dX12_night_106 rfl rfl (by decide) rfl ?_
  refine st_goto (pc := 109) (tgt := 51) dX12_night_109 (by decide) ?_
  exact hk51 _ _ _ _ _ _ _ _ hq
def D_X12_night_81 (N : Nat) (k51 : mh_H → Nat → Int32 → Int32 → Int32 → Int32 → Int32 → Int32 → Option (Int32 × mh_H)) (h : mh_H) (l0 : Nat) (l1 : Int32) (l2 : Int32) (l3 : Int32) (l5 : Int32) (l6 : Int32) (s0 : Int32) (s1 : Int32) : Option (Int32 × mh_H) :=
  kO h 12 l0 <|
  (D_X12_isSpring N h l0 l6).bind fun q1 =>
  if q1.1 = 0 then (D_X12_night_103 N k51 q1.2 l0 l1 l2 l3 (s0 ||| s1) l6 l5 (0 : Int32))
  else (D_X12_night_103 N k51 q1.2 l0 l1 l2 l3 (s0 ||| s1) l6 l5 ((1 : Int32) <<< (l6 &&& 31)))
set_option maxHeartbeats 4000000 in
set_option maxRecDepth 100000 in
theorem T_X12_night_81 {P : mh_E → Prop} {N d : Nat} (hd : 5 ≤ d) {z : (Int32 × mh_H)} {k51 : mh_H → Nat → Int32 → Int32 → Int32 → Int32 → Int32 → Int32 → Option (Int32 × mh_H)} (hk51 : ∀ (h : mh_H) (l0 : Nat) (l1 : Int32) (l2 : Int32) (l3 : Int32) (l4 : Int32) (l5 : Int32) (l6 : Int32), k51 h l0 l1 l2 l3 l4 l5 l6 = some z → mh_go P d mX12_night 51 [some (.ref l0), some (.int l1), some (.int l2), some (.int l3), some (.int l4), some (.int l5), some (.int l6), none, none, none, none, none, none] [] h (some (.int z.1)) z.2) {h : mh_H} {l0 : Nat} {l1 : Int32} {l2 : Int32} {l3 : Int32} {l5 : Int32} {l6 : Int32} {s0 : Int32} {s1 : Int32} (hq : D_X12_night_81 N k51 h l0 l1 l2 l3 l5 l6 s0 s1 = some z) : mh_go P d mX12_night 81 [some (.ref l0), some (.int l1), some (.int l2), some (.int l3), none, some (.int l5), some (.int l6), none, none, none, none, none, none] [.int s1, .int s0] h (some (.int z.1)) z.2 := by
  unfold D_X12_night_81 at hq
  refine st_ior (pc := 81) dX12_night_81 ?_
  refine st_istore (pc := 82) (lv' := [some (.ref l0), some (.int l1), some (.int l2), some (.int l3), some (.int (s0 ||| s1)), some (.int l5), some (.int l6), none, none, none, none, none, none]) dX12_night_82 rfl (by decide) rfl ?_
  refine st_iload (pc := 84) dX12_night_84 rfl ?_
  refine st_aload_n (pc := 86) dX12_night_86 rfl ?_
  refine st_iload (pc := 87) dX12_night_87 rfl ?_
  obtain ⟨⟨hbq1, hkq1⟩, hq⟩ := mh_oi hq
  obtain ⟨q1, e1, hq⟩ := mh_ob hq
  refine st_invV (pc := 89) (ci := 12) (vs := [.int l6]) (rest := [.int l5]) (st2 := [.int q1.1, .int l5]) dX12_night_89 okX12_isSpring (by decide) hkq1 hbq1 wd_1399 wd_1401 wp_52 pdX12_isSpring rfl rfl rfl rfl (Nat.le_trans (by decide) hd) (Nat.le_of_ble_eq_true rfl) (T_X12_isSpring (Nat.le_refl _) e1) rfl ?_
  refine bd_if_eq (pc := 92) (tgt := 102) hq dX12_night_92 (by decide) (fun _ hq => ?_) (fun _ hq => ?_)
  ·
    refine st_iconst (pc := 102) (v := (0 : Int32)) dX12_night_102 rfl ?_
    refine st_lesS (lv' := [some (.ref l0), some (.int l1), some (.int l2), some (.int l3), some (.int (s0 ||| s1)), none, some (.int l6), none, none, none, none, none, none]) ⟨Or.inr rfl, Or.inr rfl, Or.inr rfl, Or.inr rfl, Or.inr rfl, Or.inl rfl, Or.inr rfl, Or.inr rfl, Or.inr rfl, Or.inr rfl, Or.inr rfl, Or.inr rfl, Or.inr rfl, trivial⟩ ?_
    exact T_X12_night_103 hd hk51 hq
  ·
    refine st_iconst (pc := 95) (v := (1 : Int32)) dX12_night_95 rfl ?_
    refine st_iload (pc := 96) dX12_night_96 rfl ?_
    refine st_ishl (pc := 98) dX12_night_98 ?_
    refine st_goto (pc := 99) (tgt := 103) dX12_night_99 (by decide) ?_
    refine st_lesS (lv' := [some (.ref l0), some (.int l1), some (.int l2), some (.int l3), some (.int (s0 ||| s1)), none, some (.int l6), none, none, none, none, none, none]) ⟨Or.inr rfl, Or.inr rfl, Or.inr rfl, Or.inr rfl, Or.inr rfl, Or.inl rfl, Or.inr rfl, Or.inr rfl, Or.inr rfl, Or.inr rfl, Or.inr rfl, Or.inr rfl, Or.inr rfl, trivial⟩ ?_
    exact T_X12_night_103 hd hk51 hq
def D_X12_night_130 (N : Nat) (h : mh_H) (l0 : Nat) : Option (Int32 × mh_H) :=
  kO h 12 l0 <|
  (D_X12_error N h l0 (2 : Int32)).bind fun q1 =>
  some (q1.1, q1.2)
set_option maxHeartbeats 4000000 in
set_option maxRecDepth 100000 in
theorem T_X12_night_130 {P : mh_E → Prop} {N d : Nat} (hd : 5 ≤ d) {z : (Int32 × mh_H)} {h : mh_H} {l0 : Nat} (hq : D_X12_night_130 N h l0 = some z) : mh_go P d mX12_night 130 [some (.ref l0), none, none, none, none, none, none, none, none, none, none, none, none] [] h (some (.int z.1)) z.2 := by
  unfold D_X12_night_130 at hq
  refine st_aload_n (pc := 130) dX12_night_130 rfl ?_
  refine st_iconst (pc := 131) (v := (2 : Int32)) dX12_night_131 rfl ?_
  obtain ⟨⟨hbq1, hkq1⟩, hq⟩ := mh_oi hq
  obtain ⟨q1, e1, hq⟩ := mh_ob hq
  refine st_invV (pc := 132) (ci := 12) (vs := [.int (2 : Int32)]) (rest := []) (st2 := [.int q1.1]) dX12_night_132 okX12_error (by decide) hkq1 hbq1 wd_1274 wd_1276 wp_37 pdX12_error rfl rfl rfl rfl (Nat.le_trans (by decide) hd) (Nat.le_of_ble_eq_true rfl) (T_X12_error (Nat.le_refl _) e1) rfl ?_
  exact bd_iret (pc := 135) hq dX12_night_135 rfl
def D_X12_night_220 (N : Nat) (k139 : mh_H → Nat → Int32 → Int32 → Int32 → Int32 → Int32 → Int32 → Option (Int32 × mh_H)) (k161 : mh_H → Nat → Int32 → Int32 → Int32 → Int32 → Int32 → Int32 → Int32 → Option (Int32 × mh_H)) (h : mh_H) (l0 : Nat) (l1 : Int32) (l2 : Int32) (l3 : Int32) (l4 : Int32) (l5 : Int32) (l6 : Int32) (l7 : Int32) (s0 : Nat) (s1 : Int32) (s2 : Int32) (s3 : Int32) : Option (Int32 × mh_H) :=
  (uI h s0 s1 (s2 ||| s3)).bind fun h1 =>
  k161 h1 l0 l1 l2 l3 l4 l5 l6 (l7 + Int32.ofInt (1))
set_option maxHeartbeats 4000000 in
set_option maxRecDepth 100000 in
theorem T_X12_night_220 {P : mh_E → Prop} {N d : Nat} (hd : 5 ≤ d) {z : (Int32 × mh_H)} {k139 : mh_H → Nat → Int32 → Int32 → Int32 → Int32 → Int32 → Int32 → Option (Int32 × mh_H)} (hk139 : ∀ (h : mh_H) (l0 : Nat) (l1 : Int32) (l2 : Int32) (l3 : Int32) (l4 : Int32) (l5 : Int32) (l6 : Int32), k139 h l0 l1 l2 l3 l4 l5 l6 = some z → mh_go P d mX12_night 139 [some (.ref l0), some (.int l1), some (.int l2), some (.int l3), some (.int l4), some (.int l5), some (.int l6), none, none, none, none, none, none] [] h (some (.int z.1)) z.2) {k161 : mh_H → Nat → Int32 → Int32 → Int32 → Int32 → Int32 → Int32 → Int32 → Option (Int32 × mh_H)} (hk161 : ∀ (h : mh_H) (l0 : Nat) (l1 : Int32) (l2 : Int32) (l3 : Int32) (l4 : Int32) (l5 : Int32) (l6 : Int32) (l7 : Int32), k161 h l0 l1 l2 l3 l4 l5 l6 l7 = some z → mh_go P d mX12_night 161 [some (.ref l0), some (.int l1), some (.int l2), some (.int l3), some (.int l4), some (.int l5), some (.int l6), some (.int l7), none, none, none, none, none] [] h (some (.int z.1)) z.2) {h : mh_H} {l0 : Nat} {l1 : Int32} {l2 : Int32} {l3 : Int32} {l4 : Int32} {l5 : Int32} {l6 : Int32} {l7 : Int32} {s0 : Nat} {s1 : Int32} {s2 : Int32} {s3 : Int32} (hq : D_X12_night_220 N k139 k161 h l0 l1 l2 l3 l4 l5 l6 l7 s0 s1 s2 s3 = some z) : mh_go P d mX12_night 220 [some (.ref l0), some (.int l1), some (.int l2), some (.int l3), some (.int l4), some (.int l5), some (.int l6), some (.int l7), none, none, none, none, none] [.int s3, .int s2, .int s1, .ref s0] h (some (.int z.1)) z.2 := by
  unfold D_X12_night_220 at hq
  refine st_ior (pc := 220) dX12_night_220 ?_
  refine bd_iast (pc := 221) hq dX12_night_221 (fun h1 hq => ?_)
  refine st_iinc (pc := 222) (lv' := [some (.ref l0), some (.int l1), some (.int l2), some (.int l3), some (.int l4), some (.int l5), some (.int l6), some (.int (l7 + Int32.ofInt (1))), none, none, none, none, none]) dX12_night_222 rfl rfl (by decide) rfl ?_
  refine st_goto (pc := 225) (tgt := 161) dX12_night_225 (by decide) ?_
  exact hk161 _ _ _ _ _ _ _ _ _ hq
def D_X12_night_219 (N : Nat) (k139 : mh_H → Nat → Int32 → Int32 → Int32 → Int32 → Int32 → Int32 → Option (Int32 × mh_H)) (k161 : mh_H → Nat → Int32 → Int32 → Int32 → Int32 → Int32 → Int32 → Int32 → Option (Int32 × mh_H)) (h : mh_H) (l0 : Nat) (l1 : Int32) (l2 : Int32) (l3 : Int32) (l4 : Int32) (l5 : Int32) (l6 : Int32) (l7 : Int32) (s0 : Nat) (s1 : Int32) (s2 : Int32) : Option (Int32 × mh_H) :=
  D_X12_night_220 N k139 k161 h l0 l1 l2 l3 l4 l5 l6 l7 s0 s1 s2 (0 : Int32)
set_option maxHeartbeats 4000000 in
set_option maxRecDepth 100000 in
theorem T_X12_night_219 {P : mh_E → Prop} {N d : Nat} (hd : 5 ≤ d) {z : (Int32 × mh_H)} {k139 : mh_H → Nat → Int32 → Int32 → Int32 → Int32 → Int32 → Int32 → Option (Int32 × mh_H)} (hk139 : ∀ (h : mh_H) (l0 : Nat) (l1 : Int32) (l2 : Int32) (l3 : Int32) (l4 : Int32) (l5 : Int32) (l6 : Int32), k139 h l0 l1 l2 l3 l4 l5 l6 = some z → mh_go P d mX12_night 139 [some (.ref l0), some (.int l1), some (.int l2), some (.int l3), some (.int l4), some (.int l5), some (.int l6), none, none, none, none, none, none] [] h (some (.int z.1)) z.2) {k161 : mh_H → Nat → Int32 → Int32 → Int32 → Int32 → Int32 → Int32 → Int32 → Option (Int32 × mh_H)} (hk161 : ∀ (h : mh_H) (l0 : Nat) (l1 : Int32) (l2 : Int32) (l3 : Int32) (l4 : Int32) (l5 : Int32) (l6 : Int32) (l7 : Int32), k161 h l0 l1 l2 l3 l4 l5 l6 l7 = some z → mh_go P d mX12_night 161 [some (.ref l0), some (.int l1), some (.int l2), some (.int l3), some (.int l4), some (.int l5), some (.int l6), some (.int l7), none, none, none, none, none] [] h (some (.int z.1)) z.2) {h : mh_H} {l0 : Nat} {l1 : Int32} {l2 : Int32} {l3 : Int32} {l4 : Int32} {l5 : Int32} {l6 : Int32} {l7 : Int32} {s0 : Nat} {s1 : Int32} {s2 : Int32} (hq : D_X12_night_219 N k139 k161 h l0 l1 l2 l3 l4 l5 l6 l7 s0 s1 s2 = some z) : mh_go P d mX12_night 219 [some (.ref l0), some (.int l1), some (.int l2), some (.int l3), some (.int l4), some (.int l5), some (.int l6), some (.int l7), none, none, none, none, none] [.int s2, .int s1, .ref s0] h (some (.int z.1)) z.2 := by
  unfold D_X12_night_219 at hq
  refine st_iconst (pc := 219) (v := (0 : Int32)) dX12_night_219 rfl ?_
  exact T_X12_night_220 hd hk139 hk161 hq
def D_X12_night_228 (N : Nat) (k139 : mh_H → Nat → Int32 → Int32 → Int32 → Int32 → Int32 → Int32 → Option (Int32 × mh_H)) (h : mh_H) (l0 : Nat) (l1 : Int32) (l2 : Int32) (l3 : Int32) (l4 : Int32) (l5 : Int32) (l6 : Int32) : Option (Int32 × mh_H) :=
  k139 h l0 l1 l2 l3 l4 l5 (l6 + Int32.ofInt (1))
set_option maxHeartbeats 4000000 in
set_option maxRecDepth 100000 in
theorem T_X12_night_228 {P : mh_E → Prop} {N d : Nat} (hd : 5 ≤ d) {z : (Int32 × mh_H)} {k139 : mh_H → Nat → Int32 → Int32 → Int32 → Int32 → Int32 → Int32 → Option (Int32 × mh_H)} (hk139 : ∀ (h : mh_H) (l0 : Nat) (l1 : Int32) (l2 : Int32) (l3 : Int32) (l4 : Int32) (l5 : Int32) (l6 : Int32), k139 h l0 l1 l2 l3 l4 l5 l6 = some z → mh_go P d mX12_night 139 [some (.ref l0), some (.int l1), some (.int l2), some (.int l3), some (.int l4), some (.int l5), some (.int l6), none, none, none, none, none, none] [] h (some (.int z.1)) z.2) {h : mh_H} {l0 : Nat} {l1 : Int32} {l2 : Int32} {l3 : Int32} {l4 : Int32} {l5 : Int32} {l6 : Int32} (hq : D_X12_night_228 N k139 h l0 l1 l2 l3 l4 l5 l6 = some z) : mh_go P d mX12_night 228 [some (.ref l0), some (.int l1), some (.int l2), some (.int l3), some (.int l4), some (.int l5), some (.int l6), none, none, none, none, none, none] [] h (some (.int z.1)) z.2 := by
  unfold D_X12_night_228 at hq
  refine st_iinc (pc := 228) (lv' := [some (.ref l0), some (.int l1), some (.int l2), some (.int l3), some (.int l4), some (.int l5), some (.int (l6 + Int32.ofInt (1))), none, none, none, none, none, none]) dX12_night_228 rfl rfl (by decide) rfl ?_
  refine st_goto (pc := 231) (tgt := 139) dX12_night_231 (by decide) ?_
  exact hk139 _ _ _ _ _ _ _ _ hq
def D_X12_night_161 (N : Nat) (k139 : mh_H → Nat → Int32 → Int32 → Int32 → Int32 → Int32 → Int32 → Option (Int32 × mh_H)) : Nat → mh_H → Nat → Int32 → Int32 → Int32 → Int32 → Int32 → Int32 → Int32 → Option (Int32 × mh_H)
  | 0, _, _, _, _, _, _, _, _, _ => none
  | F + 1, h, l0, l1, l2, l3, l4, l5, l6, l7 =>
    (gR h 12 l0 0).bind fun v1 =>
    (aI h v1 (1 : Int32)).bind fun v2 =>
    if v2 ≤ l7 then (D_X12_night_228 N k139 h l0 l1 l2 l3 l4 l5 l6)
    else (if ((l4 >>> (l6 &&& 31)) &&& (1 : Int32)) = (1 : Int32) then ((gR h 12 l0 20).bind fun v3 =>
    (aI h v3 l6).bind fun v4 =>
    kO h 12 l0 <|
    (D_X12_isSpring N h l0 l7).bind fun q5 =>
    if q5.1 = 0 then (D_X12_night_219 N k139 (D_X12_night_161 N k139 F) q5.2 l0 l1 l2 l3 l4 l5 l6 l7 v3 l6 v4)
    else (kO q5.2 12 l0 <|
    (D_X12_said N q5.2 l0 l6 l7 (0 : Int32)).bind fun q6 =>
    if q6.1 = 0 then (D_X12_night_220 N k139 (D_X12_night_161 N k139 F) q6.2 l0 l1 l2 l3 l4 l5 l6 l7 v3 l6 v4 ((1 : Int32) <<< (l7 &&& 31)))
    else (D_X12_night_219 N k139 (D_X12_night_161 N k139 F) q6.2 l0 l1 l2 l3 l4 l5 l6 l7 v3 l6 v4)))
    else (D_X12_night_228 N k139 h l0 l1 l2 l3 l4 l5 l6))
set_option maxHeartbeats 4000000 in
set_option maxRecDepth 100000 in
theorem T_X12_night_161 {P : mh_E → Prop} {N d : Nat} (hd : 5 ≤ d) {z : (Int32 × mh_H)} {k139 : mh_H → Nat → Int32 → Int32 → Int32 → Int32 → Int32 → Int32 → Option (Int32 × mh_H)} (hk139 : ∀ (h : mh_H) (l0 : Nat) (l1 : Int32) (l2 : Int32) (l3 : Int32) (l4 : Int32) (l5 : Int32) (l6 : Int32), k139 h l0 l1 l2 l3 l4 l5 l6 = some z → mh_go P d mX12_night 139 [some (.ref l0), some (.int l1), some (.int l2), some (.int l3), some (.int l4), some (.int l5), some (.int l6), none, none, none, none, none, none] [] h (some (.int z.1)) z.2) : ∀ (F : Nat) (h : mh_H) (l0 : Nat) (l1 : Int32) (l2 : Int32) (l3 : Int32) (l4 : Int32) (l5 : Int32) (l6 : Int32) (l7 : Int32), D_X12_night_161 N k139 F h l0 l1 l2 l3 l4 l5 l6 l7 = some z → mh_go P d mX12_night 161 [some (.ref l0), some (.int l1), some (.int l2), some (.int l3), some (.int l4), some (.int l5), some (.int l6), some (.int l7), none, none, none, none, none] [] h (some (.int z.1)) z.2 := by
  intro F
  induction F with
  | zero => intro h l0 l1 l2 l3 l4 l5 l6 l7 hq; rw [D_X12_night_161] at hq; cases hq
  | succ F ih =>
    intro h l0 l1 l2 l3 l4 l5 l6 l7 hq
    rw [D_X12_night_161] at hq
    refine st_iload (pc := 161) dX12_night_161 rfl ?_
    refine st_aload_n (pc := 163) dX12_night_163 rfl ?_
    refine bd_getr (pc := 164) hq dX12_night_164 fl_12_9_12 rfl (fun v1 hq => ?_)
    refine st_iconst (pc := 167) (v := (1 : Int32)) dX12_night_167 rfl ?_
    refine bd_iald (pc := 168) hq dX12_night_168 (fun v2 hq => ?_)
    refine bd_icmp_ge (pc := 169) (tgt := 228) hq dX12_night_169 (by decide) (fun _ hq => ?_) (fun _ hq => ?_)
    ·
      refine st_lesS (lv' := [some (.ref l0), some (.int l1), some (.int l2), some (.int l3), some (.int l4), some (.int l5), some (.int l6), none, none, none, none, none, none]) ⟨Or.inr rfl, Or.inr rfl, Or.inr rfl, Or.inr rfl, Or.inr rfl, Or.inr rfl, Or.inr rfl, Or.inl rfl, Or.inr rfl, Or.inr rfl, Or.inr rfl, Or.inr rfl, Or.inr rfl, trivial⟩ ?_
      exact T_X12_night_228 hd hk139 hq
    ·
      refine st_iload (pc := 172) dX12_night_172 rfl ?_
      refine st_iload (pc := 174) dX12_night_174 rfl ?_
      refine st_ishr (pc := 176) dX12_night_176 ?_
      refine st_iconst (pc := 177) (v := (1 : Int32)) dX12_night_177 rfl ?_
      refine st_iand (pc := 178) dX12_night_178 ?_
      refine st_iconst (pc := 179) (v := (1 : Int32)) dX12_night_179 rfl ?_
      refine bd_icmp_ne (pc := 180) (tgt := 228) hq dX12_night_180 (by decide) (fun _ hq => ?_) (fun _ hq => ?_)
      ·
        refine st_aload_n (pc := 183) dX12_night_183 rfl ?_
        refine bd_getr (pc := 184) hq dX12_night_184 fl_12_49_12 rfl (fun v3 hq => ?_)
        refine st_iload (pc := 187) dX12_night_187 rfl ?_
        refine st_dup2 (pc := 189) dX12_night_189 rfl rfl ?_
        refine bd_iald (pc := 190) hq dX12_night_190 (fun v4 hq => ?_)
        refine st_aload_n (pc := 191) dX12_night_191 rfl ?_
        refine st_iload (pc := 192) dX12_night_192 rfl ?_
        obtain ⟨⟨hbq5, hkq5⟩, hq⟩ := mh_oi hq
        obtain ⟨q5, e5, hq⟩ := mh_ob hq
        refine st_invV (pc := 194) (ci := 12) (vs := [.int l7]) (rest := [.int v4, .int l6, .ref v3]) (st2 := [.int q5.1, .int v4, .int l6, .ref v3]) dX12_night_194 okX12_isSpring (by decide) hkq5 hbq5 wd_1399 wd_1401 wp_52 pdX12_isSpring rfl rfl rfl rfl (Nat.le_trans (by decide) hd) (Nat.le_of_ble_eq_true rfl) (T_X12_isSpring (Nat.le_refl _) e5) rfl ?_
        refine bd_if_eq (pc := 197) (tgt := 219) hq dX12_night_197 (by decide) (fun _ hq => ?_) (fun _ hq => ?_)
        ·
          exact T_X12_night_219 hd hk139 ih hq
        ·
          refine st_aload_n (pc := 200) dX12_night_200 rfl ?_
          refine st_iload (pc := 201) dX12_night_201 rfl ?_
          refine st_iload (pc := 203) dX12_night_203 rfl ?_
          refine st_iconst (pc := 205) (v := (0 : Int32)) dX12_night_205 rfl ?_
          obtain ⟨⟨hbq6, hkq6⟩, hq⟩ := mh_oi hq
          obtain ⟨q6, e6, hq⟩ := mh_ob hq
          refine st_invV (pc := 206) (ci := 12) (vs := [.int l6, .int l7, .int (0 : Int32)]) (rest := [.int v4, .int l6, .ref v3]) (st2 := [.int q6.1, .int v4, .int l6, .ref v3]) dX12_night_206 okX12_said (by decide) hkq6 hbq6 wd_1577 wd_1579 wp_77 pdX12_said rfl rfl rfl rfl (Nat.le_trans (by decide) hd) (Nat.le_of_ble_eq_true rfl) (T_X12_said (Nat.le_refl _) e6) rfl ?_
          refine bd_if_ne (pc := 209) (tgt := 219) hq dX12_night_209 (by decide) (fun _ hq => ?_) (fun _ hq => ?_)
          ·
            refine st_iconst (pc := 212) (v := (1 : Int32)) dX12_night_212 rfl ?_
            refine st_iload (pc := 213) dX12_night_213 rfl ?_
            refine st_ishl (pc := 215) dX12_night_215 ?_
            refine st_goto (pc := 216) (tgt := 220) dX12_night_216 (by decide) ?_
            exact T_X12_night_220 hd hk139 ih hq
          ·
            exact T_X12_night_219 hd hk139 ih hq
      ·
        refine st_lesS (lv' := [some (.ref l0), some (.int l1), some (.int l2), some (.int l3), some (.int l4), some (.int l5), some (.int l6), none, none, none, none, none, none]) ⟨Or.inr rfl, Or.inr rfl, Or.inr rfl, Or.inr rfl, Or.inr rfl, Or.inr rfl, Or.inr rfl, Or.inl rfl, Or.inr rfl, Or.inr rfl, Or.inr rfl, Or.inr rfl, Or.inr rfl, trivial⟩ ?_
        exact T_X12_night_228 hd hk139 hq
def D_X12_night_384 (N : Nat) (k251 : mh_H → Nat → Int32 → Int32 → Int32 → Int32 → Int32 → Int32 → Int32 → Int32 → Int32 → Option (Int32 × mh_H)) (h : mh_H) (l0 : Nat) (l1 : Int32) (l2 : Int32) (l3 : Int32) (l4 : Int32) (l5 : Int32) (l6 : Int32) (l7 : Int32) (l8 : Int32) (l9 : Int32) : Option (Int32 × mh_H) :=
  k251 h l0 l1 l2 l3 l4 l5 l6 l7 l8 ((l9 - l4) &&& l4)
set_option maxHeartbeats 4000000 in
set_option maxRecDepth 100000 in
theorem T_X12_night_384 {P : mh_E → Prop} {N d : Nat} (hd : 5 ≤ d) {z : (Int32 × mh_H)} {k251 : mh_H → Nat → Int32 → Int32 → Int32 → Int32 → Int32 → Int32 → Int32 → Int32 → Int32 → Option (Int32 × mh_H)} (hk251 : ∀ (h : mh_H) (l0 : Nat) (l1 : Int32) (l2 : Int32) (l3 : Int32) (l4 : Int32) (l5 : Int32) (l6 : Int32) (l7 : Int32) (l8 : Int32) (l9 : Int32), k251 h l0 l1 l2 l3 l4 l5 l6 l7 l8 l9 = some z → mh_go P d mX12_night 251 [some (.ref l0), some (.int l1), some (.int l2), some (.int l3), some (.int l4), some (.int l5), some (.int l6), some (.int l7), some (.int l8), some (.int l9), none, none, none] [] h (some (.int z.1)) z.2) {h : mh_H} {l0 : Nat} {l1 : Int32} {l2 : Int32} {l3 : Int32} {l4 : Int32} {l5 : Int32} {l6 : Int32} {l7 : Int32} {l8 : Int32} {l9 : Int32} (hq : D_X12_night_384 N k251 h l0 l1 l2 l3 l4 l5 l6 l7 l8 l9 = some z) : mh_go P d mX12_night 384 [some (.ref l0), some (.int l1), some (.int l2), some (.int l3), some (.int l4), some (.int l5), some (.int l6), some (.int l7), some (.int l8), some (.int l9), none, none, none] [] h (some (.int z.1)) z.2 := by
  unfold D_X12_night_384 at hq
  refine st_iload (pc := 384) dX12_night_384 rfl ?_
  refine st_iload (pc := 386) dX12_night_386 rfl ?_
  refine st_isub (pc := 388) dX12_night_388 ?_
  refine st_iload (pc := 389) dX12_night_389 rfl ?_
  refine st_iand (pc := 391) dX12_night_391 ?_
  refine st_istore (pc := 392) (lv' := [some (.ref l0), some (.int l1), some (.int l2), some (.int l3), some (.int l4), some (.int l5), some (.int l6), some (.int l7), some (.int l8), some (.int ((l9 - l4) &&& l4)), none, none, none]) dX12_night_392 rfl (by decide) rfl ?_
  refine st_goto (pc := 394) (tgt := 251) dX12_night_394 (by decide) ?_
  exact hk251 _ _ _ _ _ _ _ _ _ _ _ hq
def D_X12_night_371 (N : Nat) (k251 : mh_H → Nat → Int32 → Int32 → Int32 → Int32 → Int32 → Int32 → Int32 → Int32 → Int32 → Option (Int32 × mh_H)) (k276 : mh_H → Nat → Int32 → Int32 → Int32 → Int32 → Int32 → Int32 → Int32 → Int32 → Int32 → Int32 → Option (Int32 × mh_H)) (h : mh_H) (l0 : Nat) (l1 : Int32) (l2 : Int32) (l3 : Int32) (l4 : Int32) (l5 : Int32) (l6 : Int32) (l7 : Int32) (l8 : Int32) (l9 : Int32) (l10 : Int32) : Option (Int32 × mh_H) :=
  k276 h l0 l1 l2 l3 l4 l5 l6 l7 l8 l9 ((l10 - l5) &&& l5)
set_option maxHeartbeats 4000000 in
set_option maxRecDepth 100000 in
theorem T_X12_night_371 {P : mh_E → Prop} {N d : Nat} (hd : 5 ≤ d) {z : (Int32 × mh_H)} {k251 : mh_H → Nat → Int32 → Int32 → Int32 → Int32 → Int32 → Int32 → Int32 → Int32 → Int32 → Option (Int32 × mh_H)} (hk251 : ∀ (h : mh_H) (l0 : Nat) (l1 : Int32) (l2 : Int32) (l3 : Int32) (l4 : Int32) (l5 : Int32) (l6 : Int32) (l7 : Int32) (l8 : Int32) (l9 : Int32), k251 h l0 l1 l2 l3 l4 l5 l6 l7 l8 l9 = some z → mh_go P d mX12_night 251 [some (.ref l0), some (.int l1), some (.int l2), some (.int l3), some (.int l4), some (.int l5), some (.int l6), some (.int l7), some (.int l8), some (.int l9), none, none, none] [] h (some (.int z.1)) z.2) {k276 : mh_H → Nat → Int32 → Int32 → Int32 → Int32 → Int32 → Int32 → Int32 → Int32 → Int32 → Int32 → Option (Int32 × mh_H)} (hk276 : ∀ (h : mh_H) (l0 : Nat) (l1 : Int32) (l2 : Int32) (l3 : Int32) (l4 : Int32) (l5 : Int32) (l6 : Int32) (l7 : Int32) (l8 : Int32) (l9 : Int32) (l10 : Int32), k276 h l0 l1 l2 l3 l4 l5 l6 l7 l8 l9 l10 = some z → mh_go P d mX12_night 276 [some (.ref l0), some (.int l1), some (.int l2), some (.int l3), some (.int l4), some (.int l5), some (.int l6), some (.int l7), some (.int l8), some (.int l9), some (.int l10), none, none] [] h (some (.int z.1)) z.2) {h : mh_H} {l0 : Nat} {l1 : Int32} {l2 : Int32} {l3 : Int32} {l4 : Int32} {l5 : Int32} {l6 : Int32} {l7 : Int32} {l8 : Int32} {l9 : Int32} {l10 : Int32} (hq : D_X12_night_371 N k251 k276 h l0 l1 l2 l3 l4 l5 l6 l7 l8 l9 l10 = some z) : mh_go P d mX12_night 371 [some (.ref l0), some (.int l1), some (.int l2), some (.int l3), some (.int l4), some (.int l5), some (.int l6), some (.int l7), some (.int l8), some (.int l9), some (.int l10), none, none] [] h (some (.int z.1)) z.2 := by
  unfold D_X12_night_371 at hq
  refine st_iload (pc := 371) dX12_night_371 rfl ?_
  refine st_iload (pc := 373) dX12_night_373 rfl ?_
  refine st_isub (pc := 375) dX12_night_375 ?_
  refine st_iload (pc := 376) dX12_night_376 rfl ?_
  refine st_iand (pc := 378) dX12_night_378 ?_
  refine st_istore (pc := 379) (lv' := [some (.ref l0), some (.int l1), some (.int l2), some (.int l3), some (.int l4), some (.int l5), some (.int l6), some (.int l7), some (.int l8), some (.int l9), some (.int ((l10 - l5) &&& l5)), none, none]) dX12_night_379 rfl (by decide) rfl ?_
  refine st_goto (pc := 381) (tgt := 276) dX12_night_381 (by decide) ?_
  exact hk276 _ _ _ _ _ _ _ _ _ _ _ _ hq
def D_X12_night_340 (N : Nat) (k251 : mh_H → Nat → Int32 → Int32 → Int32 → Int32 → Int32 → Int32 → Int32 → Int32 → Int32 → Option (Int32 × mh_H)) (k276 : mh_H → Nat → Int32 → Int32 → Int32 → Int32 → Int32 → Int32 → Int32 → Int32 → Int32 → Int32 → Option (Int32 × mh_H)) (k299 : mh_H → Nat → Int32 → Int32 → Int32 → Int32 → Int32 → Int32 → Int32 → Int32 → Int32 → Int32 → Int32 → Int32 → Option (Int32 × mh_H)) (h : mh_H) (l0 : Nat) (l1 : Int32) (l2 : Int32) (l3 : Int32) (l4 : Int32) (l5 : Int32) (l6 : Int32) (l7 : Int32) (l8 : Int32) (l9 : Int32) (l10 : Int32) (l12 : Int32) (s0 : Int32) (s1 : Int32) : Option (Int32 × mh_H) :=
  k299 h l0 l1 l2 l3 l4 l5 l6 l7 l8 l9 l10 (s0 + s1) (l12 + Int32.ofInt (1))
set_option maxHeartbeats 4000000 in
set_option maxRecDepth 100000 in
theorem T_X12_night_340 {P : mh_E → Prop} {N d : Nat} (hd : 5 ≤ d) {z : (Int32 × mh_H)} {k251 : mh_H → Nat → Int32 → Int32 → Int32 → Int32 → Int32 → Int32 → Int32 → Int32 → Int32 → Option (Int32 × mh_H)} (hk251 : ∀ (h : mh_H) (l0 : Nat) (l1 : Int32) (l2 : Int32) (l3 : Int32) (l4 : Int32) (l5 : Int32) (l6 : Int32) (l7 : Int32) (l8 : Int32) (l9 : Int32), k251 h l0 l1 l2 l3 l4 l5 l6 l7 l8 l9 = some z → mh_go P d mX12_night 251 [some (.ref l0), some (.int l1), some (.int l2), some (.int l3), some (.int l4), some (.int l5), some (.int l6), some (.int l7), some (.int l8), some (.int l9), none, none, none] [] h (some (.int z.1)) z.2) {k276 : mh_H → Nat → Int32 → Int32 → Int32 → Int32 → Int32 → Int32 → Int32 → Int32 → Int32 → Int32 → Option (Int32 × mh_H)} (hk276 : ∀ (h : mh_H) (l0 : Nat) (l1 : Int32) (l2 : Int32) (l3 : Int32) (l4 : Int32) (l5 : Int32) (l6 : Int32) (l7 : Int32) (l8 : Int32) (l9 : Int32) (l10 : Int32), k276 h l0 l1 l2 l3 l4 l5 l6 l7 l8 l9 l10 = some z → mh_go P d mX12_night 276 [some (.ref l0), some (.int l1), some (.int l2), some (.int l3), some (.int l4), some (.int l5), some (.int l6), some (.int l7), some (.int l8), some (.int l9), some (.int l10), none, none] [] h (some (.int z.1)) z.2) {k299 : mh_H → Nat → Int32 → Int32 → Int32 → Int32 → Int32 → Int32 → Int32 → Int32 → Int32 → Int32 → Int32 → Int32 → Option (Int32 × mh_H)} (hk299 : ∀ (h : mh_H) (l0 : Nat) (l1 : Int32) (l2 : Int32) (l3 : Int32) (l4 : Int32) (l5 : Int32) (l6 : Int32) (l7 : Int32) (l8 : Int32) (l9 : Int32) (l10 : Int32) (l11 : Int32) (l12 : Int32), k299 h l0 l1 l2 l3 l4 l5 l6 l7 l8 l9 l10 l11 l12 = some z → mh_go P d mX12_night 299 [some (.ref l0), some (.int l1), some (.int l2), some (.int l3), some (.int l4), some (.int l5), some (.int l6), some (.int l7), some (.int l8), some (.int l9), some (.int l10), some (.int l11), some (.int l12)] [] h (some (.int z.1)) z.2) {h : mh_H} {l0 : Nat} {l1 : Int32} {l2 : Int32} {l3 : Int32} {l4 : Int32} {l5 : Int32} {l6 : Int32} {l7 : Int32} {l8 : Int32} {l9 : Int32} {l10 : Int32} {l12 : Int32} {s0 : Int32} {s1 : Int32} (hq : D_X12_night_340 N k251 k276 k299 h l0 l1 l2 l3 l4 l5 l6 l7 l8 l9 l10 l12 s0 s1 = some z) : mh_go P d mX12_night 340 [some (.ref l0), some (.int l1), some (.int l2), some (.int l3), some (.int l4), some (.int l5), some (.int l6), some (.int l7), some (.int l8), some (.int l9), some (.int l10), none, some (.int l12)] [.int s1, .int s0] h (some (.int z.1)) z.2 := by
  unfold D_X12_night_340 at hq
  refine st_iadd (pc := 340) dX12_night_340 ?_
  refine st_istore (pc := 341) (lv' := [some (.ref l0), some (.int l1), some (.int l2), some (.int l3), some (.int l4), some (.int l5), some (.int l6), some (.int l7), some (.int l8), some (.int l9), some (.int l10), some (.int (s0 + s1)), some (.int l12)]) dX12_night_341 rfl (by decide) rfl ?_
  refine st_iinc (pc := 343) (lv' := [some (.ref l0), some (.int l1), some (.int l2), some (.int l3), some (.int l4), some (.int l5), some (.int l6), some (.int l7), some (.int l8), some (.int l9), some (.int l10), some (.int (s0 + s1)), some (.int (l12 + Int32.ofInt (1)))]) dX12_night_343 rfl rfl (by decide) rfl ?_
  refine st_goto (pc := 346) (tgt := 299) dX12_night_346 (by decide) ?_
  exact hk299 _ _ _ _ _ _ _ _ _ _ _ _ _ _ hq
def D_X12_night_299 (N : Nat) (k251 : mh_H → Nat → Int32 → Int32 → Int32 → Int32 → Int32 → Int32 → Int32 → Int32 → Int32 → Option (Int32 × mh_H)) (k276 : mh_H → Nat → Int32 → Int32 → Int32 → Int32 → Int32 → Int32 → Int32 → Int32 → Int32 → Int32 → Option (Int32 × mh_H)) : Nat → mh_H → Nat → Int32 → Int32 → Int32 → Int32 → Int32 → Int32 → Int32 → Int32 → Int32 → Int32 → Int32 → Int32 → Option (Int32 × mh_H)
  | 0, _, _, _, _, _, _, _, _, _, _, _, _, _, _ => none
  | F + 1, h, l0, l1, l2, l3, l4, l5, l6, l7, l8, l9, l10, l11, l12 =>
    (gR h 12 l0 0).bind fun v1 =>
    (aI h v1 (1 : Int32)).bind fun v2 =>
    if v2 ≤ l12 then (if l6 < l11 then (D_X12_night_371 N k251 k276 h l0 l1 l2 l3 l4 l5 l11 l9 l10 l9 l10)
    else (D_X12_night_371 N k251 k276 h l0 l1 l2 l3 l4 l5 l6 l7 l8 l9 l10))
    else (if ((l9 >>> (l12 &&& 31)) &&& (1 : Int32)) = (1 : Int32) then ((gR h 12 l0 20).bind fun v3 =>
    (aI h v3 l12).bind fun v4 =>
    (D_X12_ones N h (v4 &&& l10)).bind fun q5 =>
    D_X12_night_340 N k251 k276 (D_X12_night_299 N k251 k276 F) q5.2 l0 l1 l2 l3 l4 l5 l6 l7 l8 l9 l10 l12 l11 q5.1)
    else (D_X12_night_340 N k251 k276 (D_X12_night_299 N k251 k276 F) h l0 l1 l2 l3 l4 l5 l6 l7 l8 l9 l10 l12 l11 (0 : Int32)))
set_option maxHeartbeats 4000000 in
set_option maxRecDepth 100000 in
theorem T_X12_night_299 {P : mh_E → Prop} {N d : Nat} (hd : 5 ≤ d) {z : (Int32 × mh_H)} {k251 : mh_H → Nat → Int32 → Int32 → Int32 → Int32 → Int32 → Int32 → Int32 → Int32 → Int32 → Option (Int32 × mh_H)} (hk251 : ∀ (h : mh_H) (l0 : Nat) (l1 : Int32) (l2 : Int32) (l3 : Int32) (l4 : Int32) (l5 : Int32) (l6 : Int32) (l7 : Int32) (l8 : Int32) (l9 : Int32), k251 h l0 l1 l2 l3 l4 l5 l6 l7 l8 l9 = some z → mh_go P d mX12_night 251 [some (.ref l0), some (.int l1), some (.int l2), some (.int l3), some (.int l4), some (.int l5), some (.int l6), some (.int l7), some (.int l8), some (.int l9), none, none, none] [] h (some (.int z.1)) z.2) {k276 : mh_H → Nat → Int32 → Int32 → Int32 → Int32 → Int32 → Int32 → Int32 → Int32 → Int32 → Int32 → Option (Int32 × mh_H)} (hk276 : ∀ (h : mh_H) (l0 : Nat) (l1 : Int32) (l2 : Int32) (l3 : Int32) (l4 : Int32) (l5 : Int32) (l6 : Int32) (l7 : Int32) (l8 : Int32) (l9 : Int32) (l10 : Int32), k276 h l0 l1 l2 l3 l4 l5 l6 l7 l8 l9 l10 = some z → mh_go P d mX12_night 276 [some (.ref l0), some (.int l1), some (.int l2), some (.int l3), some (.int l4), some (.int l5), some (.int l6), some (.int l7), some (.int l8), some (.int l9), some (.int l10), none, none] [] h (some (.int z.1)) z.2) : ∀ (F : Nat) (h : mh_H) (l0 : Nat) (l1 : Int32) (l2 : Int32) (l3 : Int32) (l4 : Int32) (l5 : Int32) (l6 : Int32) (l7 : Int32) (l8 : Int32) (l9 : Int32) (l10 : Int32) (l11 : Int32) (l12 : Int32), D_X12_night_299 N k251 k276 F h l0 l1 l2 l3 l4 l5 l6 l7 l8 l9 l10 l11 l12 = some z → mh_go P d mX12_night 299 [some (.ref l0), some (.int l1), some (.int l2), some (.int l3), some (.int l4), some (.int l5), some (.int l6), some (.int l7), some (.int l8), some (.int l9), some (.int l10), some (.int l11), some (.int l12)] [] h (some (.int z.1)) z.2 := by
  intro F
  induction F with
  | zero => intro h l0 l1 l2 l3 l4 l5 l6 l7 l8 l9 l10 l11 l12 hq; rw [D_X12_night_299] at hq; cases hq
  | succ F ih =>
    intro h l0 l1 l2 l3 l4 l5 l6 l7 l8 l9 l10 l11 l12 hq
    rw [D_X12_night_299] at hq
    refine st_iload (pc := 299) dX12_night_299 rfl ?_
    refine st_aload_n (pc := 301) dX12_night_301 rfl ?_
    refine bd_getr (pc := 302) hq dX12_night_302 fl_12_9_12 rfl (fun v1 hq => ?_)
    refine st_iconst (pc := 305) (v := (1 : Int32)) dX12_night_305 rfl ?_
    refine bd_iald (pc := 306) hq dX12_night_306 (fun v2 hq => ?_)
    refine bd_icmp_ge (pc := 307) (tgt := 349) hq dX12_night_307 (by decide) (fun _ hq => ?_) (fun _ hq => ?_)
    ·
      refine st_iload (pc := 349) dX12_night_349 rfl ?_
      refine st_iload (pc := 351) dX12_night_351 rfl ?_
      refine bd_icmp_gt (pc := 353) (tgt := 359) hq dX12_night_353 (by decide) (fun _ hq => ?_) (fun _ hq => ?_)
      ·
        refine st_iload (pc := 359) dX12_night_359 rfl ?_
        refine st_istore (pc := 361) (lv' := [some (.ref l0), some (.int l1), some (.int l2), some (.int l3), some (.int l4), some (.int l5), some (.int l11), some (.int l7), some (.int l8), some (.int l9), some (.int l10), some (.int l11), some (.int l12)]) dX12_night_361 rfl (by decide) rfl ?_
        refine st_iload (pc := 363) dX12_night_363 rfl ?_
        refine st_istore (pc := 365) (lv' := [some (.ref l0), some (.int l1), some (.int l2), some (.int l3), some (.int l4), some (.int l5), some (.int l11), some (.int l9), some (.int l8), some (.int l9), some (.int l10), some (.int l11), some (.int l12)]) dX12_night_365 rfl (by decide) rfl ?_
        refine st_iload (pc := 367) dX12_night_367 rfl ?_
        refine st_istore (pc := 369) (lv' := [some (.ref l0), some (.int l1), some (.int l2), some (.int l3), some (.int l4), some (.int l5), some (.int l11), some (.int l9), some (.int l10), some (.int l9), some (.int l10), some (.int l11), some (.int l12)]) dX12_night_369 rfl (by decide) rfl ?_
        refine st_lesS (lv' := [some (.ref l0), some (.int l1), some (.int l2), some (.int l3), some (.int l4), some (.int l5), some (.int l11), some (.int l9), some (.int l10), some (.int l9), some (.int l10), none, none]) ⟨Or.inr rfl, Or.inr rfl, Or.inr rfl, Or.inr rfl, Or.inr rfl, Or.inr rfl, Or.inr rfl, Or.inr rfl, Or.inr rfl, Or.inr rfl, Or.inr rfl, Or.inl rfl, Or.inl rfl, trivial⟩ ?_
        exact T_X12_night_371 hd hk251 hk276 hq
      ·
        refine st_goto (pc := 356) (tgt := 371) dX12_night_356 (by decide) ?_
        refine st_lesS (lv' := [some (.ref l0), some (.int l1), some (.int l2), some (.int l3), some (.int l4), some (.int l5), some (.int l6), some (.int l7), some (.int l8), some (.int l9), some (.int l10), none, none]) ⟨Or.inr rfl, Or.inr rfl, Or.inr rfl, Or.inr rfl, Or.inr rfl, Or.inr rfl, Or.inr rfl, Or.inr rfl, Or.inr rfl, Or.inr rfl, Or.inr rfl, Or.inl rfl, Or.inl rfl, trivial⟩ ?_
        exact T_X12_night_371 hd hk251 hk276 hq
    ·
      refine st_iload (pc := 310) dX12_night_310 rfl ?_
      refine st_iload (pc := 312) dX12_night_312 rfl ?_
      refine st_iload (pc := 314) dX12_night_314 rfl ?_
      refine st_ishr (pc := 316) dX12_night_316 ?_
      refine st_iconst (pc := 317) (v := (1 : Int32)) dX12_night_317 rfl ?_
      refine st_iand (pc := 318) dX12_night_318 ?_
      refine st_iconst (pc := 319) (v := (1 : Int32)) dX12_night_319 rfl ?_
      refine bd_icmp_ne (pc := 320) (tgt := 339) hq dX12_night_320 (by decide) (fun _ hq => ?_) (fun _ hq => ?_)
      ·
        refine st_aload_n (pc := 323) dX12_night_323 rfl ?_
        refine bd_getr (pc := 324) hq dX12_night_324 fl_12_49_12 rfl (fun v3 hq => ?_)
        refine st_iload (pc := 327) dX12_night_327 rfl ?_
        refine bd_iald (pc := 329) hq dX12_night_329 (fun v4 hq => ?_)
        refine st_iload (pc := 330) dX12_night_330 rfl ?_
        refine st_iand (pc := 332) dX12_night_332 ?_
        obtain ⟨q5, e5, hq⟩ := mh_ob hq
        refine st_invS (pc := 333) (Y := mX12_ones) (vs := [.int (v4 &&& l10)]) (rest := [.int l11]) (st2 := [.int q5.1, .int l11]) dX12_night_333 okX12_ones wd_1613 wd_1614 pdX12_ones rfl rfl rfl rfl (Nat.le_trans (by decide) hd) (Nat.le_of_ble_eq_true rfl) (T_X12_ones (Nat.le_refl _) e5) rfl ?_
        refine st_goto (pc := 336) (tgt := 340) dX12_night_336 (by decide) ?_
        refine st_lesS (lv' := [some (.ref l0), some (.int l1), some (.int l2), some (.int l3), some (.int l4), some (.int l5), some (.int l6), some (.int l7), some (.int l8), some (.int l9), some (.int l10), none, some (.int l12)]) ⟨Or.inr rfl, Or.inr rfl, Or.inr rfl, Or.inr rfl, Or.inr rfl, Or.inr rfl, Or.inr rfl, Or.inr rfl, Or.inr rfl, Or.inr rfl, Or.inr rfl, Or.inl rfl, Or.inr rfl, trivial⟩ ?_
        exact T_X12_night_340 hd hk251 hk276 ih hq
      ·
        refine st_iconst (pc := 339) (v := (0 : Int32)) dX12_night_339 rfl ?_
        refine st_lesS (lv' := [some (.ref l0), some (.int l1), some (.int l2), some (.int l3), some (.int l4), some (.int l5), some (.int l6), some (.int l7), some (.int l8), some (.int l9), some (.int l10), none, some (.int l12)]) ⟨Or.inr rfl, Or.inr rfl, Or.inr rfl, Or.inr rfl, Or.inr rfl, Or.inr rfl, Or.inr rfl, Or.inr rfl, Or.inr rfl, Or.inr rfl, Or.inr rfl, Or.inl rfl, Or.inr rfl, trivial⟩ ?_
        exact T_X12_night_340 hd hk251 hk276 ih hq
def D_X12_night_276 (N : Nat) (k251 : mh_H → Nat → Int32 → Int32 → Int32 → Int32 → Int32 → Int32 → Int32 → Int32 → Int32 → Option (Int32 × mh_H)) : Nat → mh_H → Nat → Int32 → Int32 → Int32 → Int32 → Int32 → Int32 → Int32 → Int32 → Int32 → Int32 → Option (Int32 × mh_H)
  | 0, _, _, _, _, _, _, _, _, _, _, _, _ => none
  | F + 1, h, l0, l1, l2, l3, l4, l5, l6, l7, l8, l9, l10 =>
    if l10 = 0 then (D_X12_night_384 N k251 h l0 l1 l2 l3 l4 l5 l6 l7 l8 l9)
    else ((D_X12_ones N h l10).bind fun q1 =>
    if q1.1 = l2 then (D_X12_night_299 N k251 (D_X12_night_276 N k251 F) N q1.2 l0 l1 l2 l3 l4 l5 l6 l7 l8 l9 l10 (0 : Int32) (0 : Int32))
    else (D_X12_night_371 N k251 (D_X12_night_276 N k251 F) q1.2 l0 l1 l2 l3 l4 l5 l6 l7 l8 l9 l10))
set_option maxHeartbeats 4000000 in
set_option maxRecDepth 100000 in
theorem T_X12_night_276 {P : mh_E → Prop} {N d : Nat} (hd : 5 ≤ d) {z : (Int32 × mh_H)} {k251 : mh_H → Nat → Int32 → Int32 → Int32 → Int32 → Int32 → Int32 → Int32 → Int32 → Int32 → Option (Int32 × mh_H)} (hk251 : ∀ (h : mh_H) (l0 : Nat) (l1 : Int32) (l2 : Int32) (l3 : Int32) (l4 : Int32) (l5 : Int32) (l6 : Int32) (l7 : Int32) (l8 : Int32) (l9 : Int32), k251 h l0 l1 l2 l3 l4 l5 l6 l7 l8 l9 = some z → mh_go P d mX12_night 251 [some (.ref l0), some (.int l1), some (.int l2), some (.int l3), some (.int l4), some (.int l5), some (.int l6), some (.int l7), some (.int l8), some (.int l9), none, none, none] [] h (some (.int z.1)) z.2) : ∀ (F : Nat) (h : mh_H) (l0 : Nat) (l1 : Int32) (l2 : Int32) (l3 : Int32) (l4 : Int32) (l5 : Int32) (l6 : Int32) (l7 : Int32) (l8 : Int32) (l9 : Int32) (l10 : Int32), D_X12_night_276 N k251 F h l0 l1 l2 l3 l4 l5 l6 l7 l8 l9 l10 = some z → mh_go P d mX12_night 276 [some (.ref l0), some (.int l1), some (.int l2), some (.int l3), some (.int l4), some (.int l5), some (.int l6), some (.int l7), some (.int l8), some (.int l9), some (.int l10), none, none] [] h (some (.int z.1)) z.2 := by
  intro F
  induction F with
  | zero => intro h l0 l1 l2 l3 l4 l5 l6 l7 l8 l9 l10 hq; rw [D_X12_night_276] at hq; cases hq
  | succ F ih =>
    intro h l0 l1 l2 l3 l4 l5 l6 l7 l8 l9 l10 hq
    rw [D_X12_night_276] at hq
    refine st_iload (pc := 276) dX12_night_276 rfl ?_
    refine bd_if_eq (pc := 278) (tgt := 384) hq dX12_night_278 (by decide) (fun _ hq => ?_) (fun _ hq => ?_)
    ·
      refine st_lesS (lv' := [some (.ref l0), some (.int l1), some (.int l2), some (.int l3), some (.int l4), some (.int l5), some (.int l6), some (.int l7), some (.int l8), some (.int l9), none, none, none]) ⟨Or.inr rfl, Or.inr rfl, Or.inr rfl, Or.inr rfl, Or.inr rfl, Or.inr rfl, Or.inr rfl, Or.inr rfl, Or.inr rfl, Or.inr rfl, Or.inl rfl, Or.inr rfl, Or.inr rfl, trivial⟩ ?_
      exact T_X12_night_384 hd hk251 hq
    ·
      refine st_iload (pc := 281) dX12_night_281 rfl ?_
      obtain ⟨q1, e1, hq⟩ := mh_ob hq
      refine st_invS (pc := 283) (Y := mX12_ones) (vs := [.int l10]) (rest := []) (st2 := [.int q1.1]) dX12_night_283 okX12_ones wd_1613 wd_1614 pdX12_ones rfl rfl rfl rfl (Nat.le_trans (by decide) hd) (Nat.le_of_ble_eq_true rfl) (T_X12_ones (Nat.le_refl _) e1) rfl ?_
      refine st_iload_n (pc := 286) dX12_night_286 rfl ?_
      refine bd_icmp_eq (pc := 287) (tgt := 293) hq dX12_night_287 (by decide) (fun _ hq => ?_) (fun _ hq => ?_)
      ·
        refine st_iconst (pc := 293) (v := (0 : Int32)) dX12_night_293 rfl ?_
        refine st_istore (pc := 294) (lv' := [some (.ref l0), some (.int l1), some (.int l2), some (.int l3), some (.int l4), some (.int l5), some (.int l6), some (.int l7), some (.int l8), some (.int l9), some (.int l10), some (.int (0 : Int32)), none]) dX12_night_294 rfl (by decide) rfl ?_
        refine st_iconst (pc := 296) (v := (0 : Int32)) dX12_night_296 rfl ?_
        refine st_istore (pc := 297) (lv' := [some (.ref l0), some (.int l1), some (.int l2), some (.int l3), some (.int l4), some (.int l5), some (.int l6), some (.int l7), some (.int l8), some (.int l9), some (.int l10), some (.int (0 : Int32)), some (.int (0 : Int32))]) dX12_night_297 rfl (by decide) rfl ?_
        exact T_X12_night_299 hd hk251 ih N _ _ _ _ _ _ _ _ _ _ _ _ _ _ hq
      ·
        refine st_goto (pc := 290) (tgt := 371) dX12_night_290 (by decide) ?_
        exact T_X12_night_371 hd hk251 ih hq
def D_X12_night_251 (N : Nat) : Nat → mh_H → Nat → Int32 → Int32 → Int32 → Int32 → Int32 → Int32 → Int32 → Int32 → Int32 → Option (Int32 × mh_H)
  | 0, _, _, _, _, _, _, _, _, _, _, _ => none
  | F + 1, h, l0, l1, l2, l3, l4, l5, l6, l7, l8, l9 =>
    if l9 = 0 then (if l3 = 0 then (some (l6, h))
    else (if l3 = (1 : Int32) then (some (l7, h))
    else (some (l8, h))))
    else ((D_X12_ones N h l9).bind fun q1 =>
    if q1.1 = l1 then (D_X12_night_276 N (D_X12_night_251 N F) N q1.2 l0 l1 l2 l3 l4 l5 l6 l7 l8 l9 (l5 &&& (-l5)))
    else (D_X12_night_384 N (D_X12_night_251 N F) q1.2 l0 l1 l2 l3 l4 l5 l6 l7 l8 l9))
set_option maxHeartbeats 4000000 in
set_option maxRecDepth 100000 in
theorem T_X12_night_251 {P : mh_E → Prop} {N d : Nat} (hd : 5 ≤ d) {z : (Int32 × mh_H)} : ∀ (F : Nat) (h : mh_H) (l0 : Nat) (l1 : Int32) (l2 : Int32) (l3 : Int32) (l4 : Int32) (l5 : Int32) (l6 : Int32) (l7 : Int32) (l8 : Int32) (l9 : Int32), D_X12_night_251 N F h l0 l1 l2 l3 l4 l5 l6 l7 l8 l9 = some z → mh_go P d mX12_night 251 [some (.ref l0), some (.int l1), some (.int l2), some (.int l3), some (.int l4), some (.int l5), some (.int l6), some (.int l7), some (.int l8), some (.int l9), none, none, none] [] h (some (.int z.1)) z.2 := by
  intro F
  induction F with
  | zero => intro h l0 l1 l2 l3 l4 l5 l6 l7 l8 l9 hq; rw [D_X12_night_251] at hq; cases hq
  | succ F ih =>
    intro h l0 l1 l2 l3 l4 l5 l6 l7 l8 l9 hq
    rw [D_X12_night_251] at hq
    refine st_iload (pc := 251) dX12_night_251 rfl ?_
    refine bd_if_eq (pc := 253) (tgt := 397) hq dX12_night_253 (by decide) (fun _ hq => ?_) (fun _ hq => ?_)
    ·
      refine st_iload_n (pc := 397) dX12_night_397 rfl ?_
      refine bd_if_ne (pc := 398) (tgt := 406) hq dX12_night_398 (by decide) (fun _ hq => ?_) (fun _ hq => ?_)
      ·
        refine st_iload (pc := 401) dX12_night_401 rfl ?_
        refine st_goto (pc := 403) (tgt := 418) dX12_night_403 (by decide) ?_
        exact bd_iret (pc := 418) hq dX12_night_418 rfl
      ·
        refine st_iload_n (pc := 406) dX12_night_406 rfl ?_
        refine st_iconst (pc := 407) (v := (1 : Int32)) dX12_night_407 rfl ?_
        refine bd_icmp_ne (pc := 408) (tgt := 416) hq dX12_night_408 (by decide) (fun _ hq => ?_) (fun _ hq => ?_)
        ·
          refine st_iload (pc := 411) dX12_night_411 rfl ?_
          refine st_goto (pc := 413) (tgt := 418) dX12_night_413 (by decide) ?_
          exact bd_iret (pc := 418) hq dX12_night_418 rfl
        ·
          refine st_iload (pc := 416) dX12_night_416 rfl ?_
          exact bd_iret (pc := 418) hq dX12_night_418 rfl
    ·
      refine st_iload (pc := 256) dX12_night_256 rfl ?_
      obtain ⟨q1, e1, hq⟩ := mh_ob hq
      refine st_invS (pc := 258) (Y := mX12_ones) (vs := [.int l9]) (rest := []) (st2 := [.int q1.1]) dX12_night_258 okX12_ones wd_1613 wd_1614 pdX12_ones rfl rfl rfl rfl (Nat.le_trans (by decide) hd) (Nat.le_of_ble_eq_true rfl) (T_X12_ones (Nat.le_refl _) e1) rfl ?_
      refine st_iload_n (pc := 261) dX12_night_261 rfl ?_
      refine bd_icmp_eq (pc := 262) (tgt := 268) hq dX12_night_262 (by decide) (fun _ hq => ?_) (fun _ hq => ?_)
      ·
        refine st_iload (pc := 268) dX12_night_268 rfl ?_
        refine st_iload (pc := 270) dX12_night_270 rfl ?_
        refine st_ineg (pc := 272) dX12_night_272 ?_
        refine st_iand (pc := 273) dX12_night_273 ?_
        refine st_istore (pc := 274) (lv' := [some (.ref l0), some (.int l1), some (.int l2), some (.int l3), some (.int l4), some (.int l5), some (.int l6), some (.int l7), some (.int l8), some (.int l9), some (.int (l5 &&& (-l5))), none, none]) dX12_night_274 rfl (by decide) rfl ?_
        exact T_X12_night_276 hd ih N _ _ _ _ _ _ _ _ _ _ _ _ hq
      ·
        refine st_goto (pc := 265) (tgt := 384) dX12_night_265 (by decide) ?_
        exact T_X12_night_384 hd ih hq
def D_X12_night_139 (N : Nat) : Nat → mh_H → Nat → Int32 → Int32 → Int32 → Int32 → Int32 → Int32 → Option (Int32 × mh_H)
  | 0, _, _, _, _, _, _, _, _ => none
  | F + 1, h, l0, l1, l2, l3, l4, l5, l6 =>
    (gR h 12 l0 0).bind fun v1 =>
    (aI h v1 (1 : Int32)).bind fun v2 =>
    if v2 ≤ l6 then (D_X12_night_251 N N h l0 l1 l2 l3 l4 l5 (-1 : Int32) (0 : Int32) (0 : Int32) (l4 &&& (-l4)))
    else ((gR h 12 l0 20).bind fun v3 =>
    (uI h v3 l6 (0 : Int32)).bind fun h4 =>
    D_X12_night_161 N (D_X12_night_139 N F) N h4 l0 l1 l2 l3 l4 l5 l6 (0 : Int32))
set_option maxHeartbeats 4000000 in
set_option maxRecDepth 100000 in
theorem T_X12_night_139 {P : mh_E → Prop} {N d : Nat} (hd : 5 ≤ d) {z : (Int32 × mh_H)} : ∀ (F : Nat) (h : mh_H) (l0 : Nat) (l1 : Int32) (l2 : Int32) (l3 : Int32) (l4 : Int32) (l5 : Int32) (l6 : Int32), D_X12_night_139 N F h l0 l1 l2 l3 l4 l5 l6 = some z → mh_go P d mX12_night 139 [some (.ref l0), some (.int l1), some (.int l2), some (.int l3), some (.int l4), some (.int l5), some (.int l6), none, none, none, none, none, none] [] h (some (.int z.1)) z.2 := by
  intro F
  induction F with
  | zero => intro h l0 l1 l2 l3 l4 l5 l6 hq; rw [D_X12_night_139] at hq; cases hq
  | succ F ih =>
    intro h l0 l1 l2 l3 l4 l5 l6 hq
    rw [D_X12_night_139] at hq
    refine st_iload (pc := 139) dX12_night_139 rfl ?_
    refine st_aload_n (pc := 141) dX12_night_141 rfl ?_
    refine bd_getr (pc := 142) hq dX12_night_142 fl_12_9_12 rfl (fun v1 hq => ?_)
    refine st_iconst (pc := 145) (v := (1 : Int32)) dX12_night_145 rfl ?_
    refine bd_iald (pc := 146) hq dX12_night_146 (fun v2 hq => ?_)
    refine bd_icmp_ge (pc := 147) (tgt := 234) hq dX12_night_147 (by decide) (fun _ hq => ?_) (fun _ hq => ?_)
    ·
      refine st_iconst (pc := 234) (v := (-1 : Int32)) dX12_night_234 rfl ?_
      refine st_istore (pc := 235) (lv' := [some (.ref l0), some (.int l1), some (.int l2), some (.int l3), some (.int l4), some (.int l5), some (.int (-1 : Int32)), none, none, none, none, none, none]) dX12_night_235 rfl (by decide) rfl ?_
      refine st_iconst (pc := 237) (v := (0 : Int32)) dX12_night_237 rfl ?_
      refine st_istore (pc := 238) (lv' := [some (.ref l0), some (.int l1), some (.int l2), some (.int l3), some (.int l4), some (.int l5), some (.int (-1 : Int32)), some (.int (0 : Int32)), none, none, none, none, none]) dX12_night_238 rfl (by decide) rfl ?_
      refine st_iconst (pc := 240) (v := (0 : Int32)) dX12_night_240 rfl ?_
      refine st_istore (pc := 241) (lv' := [some (.ref l0), some (.int l1), some (.int l2), some (.int l3), some (.int l4), some (.int l5), some (.int (-1 : Int32)), some (.int (0 : Int32)), some (.int (0 : Int32)), none, none, none, none]) dX12_night_241 rfl (by decide) rfl ?_
      refine st_iload (pc := 243) dX12_night_243 rfl ?_
      refine st_iload (pc := 245) dX12_night_245 rfl ?_
      refine st_ineg (pc := 247) dX12_night_247 ?_
      refine st_iand (pc := 248) dX12_night_248 ?_
      refine st_istore (pc := 249) (lv' := [some (.ref l0), some (.int l1), some (.int l2), some (.int l3), some (.int l4), some (.int l5), some (.int (-1 : Int32)), some (.int (0 : Int32)), some (.int (0 : Int32)), some (.int (l4 &&& (-l4))), none, none, none]) dX12_night_249 rfl (by decide) rfl ?_
      exact T_X12_night_251 hd N _ _ _ _ _ _ _ _ _ _ _ hq
    ·
      refine st_aload_n (pc := 150) dX12_night_150 rfl ?_
      refine bd_getr (pc := 151) hq dX12_night_151 fl_12_49_12 rfl (fun v3 hq => ?_)
      refine st_iload (pc := 154) dX12_night_154 rfl ?_
      refine st_iconst (pc := 156) (v := (0 : Int32)) dX12_night_156 rfl ?_
      refine bd_iast (pc := 157) hq dX12_night_157 (fun h4 hq => ?_)
      refine st_iconst (pc := 158) (v := (0 : Int32)) dX12_night_158 rfl ?_
      refine st_istore (pc := 159) (lv' := [some (.ref l0), some (.int l1), some (.int l2), some (.int l3), some (.int l4), some (.int l5), some (.int l6), some (.int (0 : Int32)), none, none, none, none, none]) dX12_night_159 rfl (by decide) rfl ?_
      exact T_X12_night_161 hd ih N _ _ _ _ _ _ _ _ _ hq
def D_X12_night_51 (N : Nat) : Nat → mh_H → Nat → Int32 → Int32 → Int32 → Int32 → Int32 → Int32 → Option (Int32 × mh_H)
  | 0, _, _, _, _, _, _, _, _ => none
  | F + 1, h, l0, l1, l2, l3, l4, l5, l6 =>
    (gR h 12 l0 0).bind fun v1 =>
    (aI h v1 (1 : Int32)).bind fun v2 =>
    if v2 ≤ l6 then ((D_X12_ones N h l4).bind fun q3 =>
    if q3.1 < l1 then (D_X12_night_130 N q3.2 l0)
    else ((D_X12_ones N q3.2 l5).bind fun q4 =>
    if l2 ≤ q4.1 then (D_X12_night_139 N N q4.2 l0 l1 l2 l3 l4 l5 (0 : Int32))
    else (D_X12_night_130 N q4.2 l0)))
    else (kO h 12 l0 <|
    (D_X12_mayBe N h l0 l6).bind fun q3 =>
    if q3.1 = 0 then (D_X12_night_81 N (D_X12_night_51 N F) q3.2 l0 l1 l2 l3 l5 l6 l4 (0 : Int32))
    else (D_X12_night_81 N (D_X12_night_51 N F) q3.2 l0 l1 l2 l3 l5 l6 l4 ((1 : Int32) <<< (l6 &&& 31))))
set_option maxHeartbeats 4000000 in
set_option maxRecDepth 100000 in
theorem T_X12_night_51 {P : mh_E → Prop} {N d : Nat} (hd : 5 ≤ d) {z : (Int32 × mh_H)} : ∀ (F : Nat) (h : mh_H) (l0 : Nat) (l1 : Int32) (l2 : Int32) (l3 : Int32) (l4 : Int32) (l5 : Int32) (l6 : Int32), D_X12_night_51 N F h l0 l1 l2 l3 l4 l5 l6 = some z → mh_go P d mX12_night 51 [some (.ref l0), some (.int l1), some (.int l2), some (.int l3), some (.int l4), some (.int l5), some (.int l6), none, none, none, none, none, none] [] h (some (.int z.1)) z.2 := by
  intro F
  induction F with
  | zero => intro h l0 l1 l2 l3 l4 l5 l6 hq; rw [D_X12_night_51] at hq; cases hq
  | succ F ih =>
    intro h l0 l1 l2 l3 l4 l5 l6 hq
    rw [D_X12_night_51] at hq
    refine st_iload (pc := 51) dX12_night_51 rfl ?_
    refine st_aload_n (pc := 53) dX12_night_53 rfl ?_
    refine bd_getr (pc := 54) hq dX12_night_54 fl_12_9_12 rfl (fun v1 hq => ?_)
    refine st_iconst (pc := 57) (v := (1 : Int32)) dX12_night_57 rfl ?_
    refine bd_iald (pc := 58) hq dX12_night_58 (fun v2 hq => ?_)
    refine bd_icmp_ge (pc := 59) (tgt := 112) hq dX12_night_59 (by decide) (fun _ hq => ?_) (fun _ hq => ?_)
    ·
      refine st_iload (pc := 112) dX12_night_112 rfl ?_
      obtain ⟨q3, e3, hq⟩ := mh_ob hq
      refine st_invS (pc := 114) (Y := mX12_ones) (vs := [.int l4]) (rest := []) (st2 := [.int q3.1]) dX12_night_114 okX12_ones wd_1613 wd_1614 pdX12_ones rfl rfl rfl rfl (Nat.le_trans (by decide) hd) (Nat.le_of_ble_eq_true rfl) (T_X12_ones (Nat.le_refl _) e3) rfl ?_
      refine st_iload_n (pc := 117) dX12_night_117 rfl ?_
      refine bd_icmp_lt (pc := 118) (tgt := 130) hq dX12_night_118 (by decide) (fun _ hq => ?_) (fun _ hq => ?_)
      ·
        refine st_lesS (lv' := [some (.ref l0), none, none, none, none, none, none, none, none, none, none, none, none]) ⟨Or.inr rfl, Or.inl rfl, Or.inl rfl, Or.inl rfl, Or.inl rfl, Or.inl rfl, Or.inl rfl, Or.inr rfl, Or.inr rfl, Or.inr rfl, Or.inr rfl, Or.inr rfl, Or.inr rfl, trivial⟩ ?_
        exact T_X12_night_130 hd hq
      ·
        refine st_iload (pc := 121) dX12_night_121 rfl ?_
        obtain ⟨q4, e4, hq⟩ := mh_ob hq
        refine st_invS (pc := 123) (Y := mX12_ones) (vs := [.int l5]) (rest := []) (st2 := [.int q4.1]) dX12_night_123 okX12_ones wd_1613 wd_1614 pdX12_ones rfl rfl rfl rfl (Nat.le_trans (by decide) hd) (Nat.le_of_ble_eq_true rfl) (T_X12_ones (Nat.le_refl _) e4) rfl ?_
        refine st_iload_n (pc := 126) dX12_night_126 rfl ?_
        refine bd_icmp_ge (pc := 127) (tgt := 136) hq dX12_night_127 (by decide) (fun _ hq => ?_) (fun _ hq => ?_)
        ·
          refine st_iconst (pc := 136) (v := (0 : Int32)) dX12_night_136 rfl ?_
          refine st_istore (pc := 137) (lv' := [some (.ref l0), some (.int l1), some (.int l2), some (.int l3), some (.int l4), some (.int l5), some (.int (0 : Int32)), none, none, none, none, none, none]) dX12_night_137 rfl (by decide) rfl ?_
          exact T_X12_night_139 hd N _ _ _ _ _ _ _ _ hq
        ·
          refine st_lesS (lv' := [some (.ref l0), none, none, none, none, none, none, none, none, none, none, none, none]) ⟨Or.inr rfl, Or.inl rfl, Or.inl rfl, Or.inl rfl, Or.inl rfl, Or.inl rfl, Or.inl rfl, Or.inr rfl, Or.inr rfl, Or.inr rfl, Or.inr rfl, Or.inr rfl, Or.inr rfl, trivial⟩ ?_
          exact T_X12_night_130 hd hq
    ·
      refine st_iload (pc := 62) dX12_night_62 rfl ?_
      refine st_aload_n (pc := 64) dX12_night_64 rfl ?_
      refine st_iload (pc := 65) dX12_night_65 rfl ?_
      obtain ⟨⟨hbq3, hkq3⟩, hq⟩ := mh_oi hq
      obtain ⟨q3, e3, hq⟩ := mh_ob hq
      refine st_invV (pc := 67) (ci := 12) (vs := [.int l6]) (rest := [.int l4]) (st2 := [.int q3.1, .int l4]) dX12_night_67 okX12_mayBe (by decide) hkq3 hbq3 wd_1633 wd_1635 wp_83 pdX12_mayBe rfl rfl rfl rfl (Nat.le_trans (by decide) hd) (Nat.le_of_ble_eq_true rfl) (T_X12_mayBe (Nat.le_refl _) e3) rfl ?_
      refine bd_if_eq (pc := 70) (tgt := 80) hq dX12_night_70 (by decide) (fun _ hq => ?_) (fun _ hq => ?_)
      ·
        refine st_iconst (pc := 80) (v := (0 : Int32)) dX12_night_80 rfl ?_
        refine st_lesS (lv' := [some (.ref l0), some (.int l1), some (.int l2), some (.int l3), none, some (.int l5), some (.int l6), none, none, none, none, none, none]) ⟨Or.inr rfl, Or.inr rfl, Or.inr rfl, Or.inr rfl, Or.inl rfl, Or.inr rfl, Or.inr rfl, Or.inr rfl, Or.inr rfl, Or.inr rfl, Or.inr rfl, Or.inr rfl, Or.inr rfl, trivial⟩ ?_
        exact T_X12_night_81 hd ih hq
      ·
        refine st_iconst (pc := 73) (v := (1 : Int32)) dX12_night_73 rfl ?_
        refine st_iload (pc := 74) dX12_night_74 rfl ?_
        refine st_ishl (pc := 76) dX12_night_76 ?_
        refine st_goto (pc := 77) (tgt := 81) dX12_night_77 (by decide) ?_
        refine st_lesS (lv' := [some (.ref l0), some (.int l1), some (.int l2), some (.int l3), none, some (.int l5), some (.int l6), none, none, none, none, none, none]) ⟨Or.inr rfl, Or.inr rfl, Or.inr rfl, Or.inr rfl, Or.inl rfl, Or.inr rfl, Or.inr rfl, Or.inr rfl, Or.inr rfl, Or.inr rfl, Or.inr rfl, Or.inr rfl, Or.inr rfl, trivial⟩ ?_
        exact T_X12_night_81 hd ih hq
def D_X12_night (N : Nat) (h : mh_H) (l0 : Nat) (l1 : Int32) (l2 : Int32) (l3 : Int32) : Option (Int32 × mh_H) :=
  (D_X12_in N h l1.toInt64 (1 : Int64) (4 : Int64)).bind fun q1 =>
  if q1.1 = 0 then (D_X12_night_36 N q1.2 l0)
  else ((D_X12_in N q1.2 l2.toInt64 (1 : Int64) (6 : Int64)).bind fun q2 =>
  if q2.1 = 0 then (D_X12_night_36 N q2.2 l0)
  else ((D_X12_in N q2.2 l3.toInt64 (0 : Int64) (2 : Int64)).bind fun q3 =>
  if q3.1 = 0 then (D_X12_night_36 N q3.2 l0)
  else (D_X12_night_51 N N q3.2 l0 l1 l2 l3 (0 : Int32) (0 : Int32) (0 : Int32))))
set_option maxHeartbeats 4000000 in
set_option maxRecDepth 100000 in
theorem T_X12_night {P : mh_E → Prop} {N d : Nat} (hd : 5 ≤ d) {z : (Int32 × mh_H)} {h : mh_H} {l0 : Nat} {l1 : Int32} {l2 : Int32} {l3 : Int32} (hq : D_X12_night N h l0 l1 l2 l3 = some z) : mh_go P d mX12_night 0 [some (.ref l0), some (.int l1), some (.int l2), some (.int l3), none, none, none, none, none, none, none, none, none] [] h (some (.int z.1)) z.2 := by
  unfold D_X12_night at hq
  refine st_iload_n (pc := 0) dX12_night_0 rfl ?_
  refine st_i2l (pc := 1) dX12_night_1 ?_
  refine st_lconst (pc := 2) (v := 1) dX12_night_2 rfl ?_
  refine st_ldc2 (pc := 3) (v := (4 : Int64)) dX12_night_3 wd_1632 ?_
  obtain ⟨q1, e1, hq⟩ := mh_ob hq
  refine st_invS (pc := 6) (Y := mX12_in) (vs := [.long l1.toInt64, .long (1 : Int64), .long (4 : Int64)]) (rest := []) (st2 := [.int q1.1]) dX12_night_6 okX12_in wd_1270 wd_1271 pdX12_in rfl rfl rfl rfl (Nat.le_trans (by decide) hd) (Nat.le_of_ble_eq_true rfl) (T_X12_in (Nat.le_refl _) e1) rfl ?_
  refine bd_if_eq (pc := 9) (tgt := 36) hq dX12_night_9 (by decide) (fun _ hq => ?_) (fun _ hq => ?_)
  ·
    refine st_lesS (lv' := [some (.ref l0), none, none, none, none, none, none, none, none, none, none, none, none]) ⟨Or.inr rfl, Or.inl rfl, Or.inl rfl, Or.inl rfl, Or.inr rfl, Or.inr rfl, Or.inr rfl, Or.inr rfl, Or.inr rfl, Or.inr rfl, Or.inr rfl, Or.inr rfl, Or.inr rfl, trivial⟩ ?_
    exact T_X12_night_36 hd hq
  ·
    refine st_iload_n (pc := 12) dX12_night_12 rfl ?_
    refine st_i2l (pc := 13) dX12_night_13 ?_
    refine st_lconst (pc := 14) (v := 1) dX12_night_14 rfl ?_
    refine st_ldc2 (pc := 15) (v := (6 : Int64)) dX12_night_15 wd_1290 ?_
    obtain ⟨q2, e2, hq⟩ := mh_ob hq
    refine st_invS (pc := 18) (Y := mX12_in) (vs := [.long l2.toInt64, .long (1 : Int64), .long (6 : Int64)]) (rest := []) (st2 := [.int q2.1]) dX12_night_18 okX12_in wd_1270 wd_1271 pdX12_in rfl rfl rfl rfl (Nat.le_trans (by decide) hd) (Nat.le_of_ble_eq_true rfl) (T_X12_in (Nat.le_refl _) e2) rfl ?_
    refine bd_if_eq (pc := 21) (tgt := 36) hq dX12_night_21 (by decide) (fun _ hq => ?_) (fun _ hq => ?_)
    ·
      refine st_lesS (lv' := [some (.ref l0), none, none, none, none, none, none, none, none, none, none, none, none]) ⟨Or.inr rfl, Or.inl rfl, Or.inl rfl, Or.inl rfl, Or.inr rfl, Or.inr rfl, Or.inr rfl, Or.inr rfl, Or.inr rfl, Or.inr rfl, Or.inr rfl, Or.inr rfl, Or.inr rfl, trivial⟩ ?_
      exact T_X12_night_36 hd hq
    ·
      refine st_iload_n (pc := 24) dX12_night_24 rfl ?_
      refine st_i2l (pc := 25) dX12_night_25 ?_
      refine st_lconst (pc := 26) (v := 0) dX12_night_26 rfl ?_
      refine st_ldc2 (pc := 27) (v := (2 : Int64)) dX12_night_27 wd_1572 ?_
      obtain ⟨q3, e3, hq⟩ := mh_ob hq
      refine st_invS (pc := 30) (Y := mX12_in) (vs := [.long l3.toInt64, .long (0 : Int64), .long (2 : Int64)]) (rest := []) (st2 := [.int q3.1]) dX12_night_30 okX12_in wd_1270 wd_1271 pdX12_in rfl rfl rfl rfl (Nat.le_trans (by decide) hd) (Nat.le_of_ble_eq_true rfl) (T_X12_in (Nat.le_refl _) e3) rfl ?_
      refine bd_if_ne (pc := 33) (tgt := 42) hq dX12_night_33 (by decide) (fun _ hq => ?_) (fun _ hq => ?_)
      ·
        refine st_lesS (lv' := [some (.ref l0), none, none, none, none, none, none, none, none, none, none, none, none]) ⟨Or.inr rfl, Or.inl rfl, Or.inl rfl, Or.inl rfl, Or.inr rfl, Or.inr rfl, Or.inr rfl, Or.inr rfl, Or.inr rfl, Or.inr rfl, Or.inr rfl, Or.inr rfl, Or.inr rfl, trivial⟩ ?_
        exact T_X12_night_36 hd hq
      ·
        refine st_iconst (pc := 42) (v := (0 : Int32)) dX12_night_42 rfl ?_
        refine st_istore (pc := 43) (lv' := [some (.ref l0), some (.int l1), some (.int l2), some (.int l3), some (.int (0 : Int32)), none, none, none, none, none, none, none, none]) dX12_night_43 rfl (by decide) rfl ?_
        refine st_iconst (pc := 45) (v := (0 : Int32)) dX12_night_45 rfl ?_
        refine st_istore (pc := 46) (lv' := [some (.ref l0), some (.int l1), some (.int l2), some (.int l3), some (.int (0 : Int32)), some (.int (0 : Int32)), none, none, none, none, none, none, none]) dX12_night_46 rfl (by decide) rfl ?_
        refine st_iconst (pc := 48) (v := (0 : Int32)) dX12_night_48 rfl ?_
        refine st_istore (pc := 49) (lv' := [some (.ref l0), some (.int l1), some (.int l2), some (.int l3), some (.int (0 : Int32)), some (.int (0 : Int32)), some (.int (0 : Int32)), none, none, none, none, none, none]) dX12_night_49 rfl (by decide) rfl ?_
        exact T_X12_night_51 hd N _ _ _ _ _ _ _ _ hq
-- HoleWaterModel.share(I)I
theorem dX12_share_167 : decode cX12_share 167 = .ok (.istore 4, 2) := by decide +kernel
theorem dX12_share_169 : decode cX12_share 169 = .ok (.iinc 5 1, 3) := by decide +kernel
theorem dX12_share_172 : decode cX12_share 172 = .ok (.goto (-97), 3) := by decide +kernel
theorem dX12_share_155 : decode cX12_share 155 = .ok (.istore 6, 2) := by decide +kernel
theorem dX12_share_157 : decode cX12_share 157 = .ok (.iload 6, 2) := by decide +kernel
theorem dX12_share_159 : decode cX12_share 159 = .ok (.ifCond .ne 7, 3) := by decide +kernel
theorem dX12_share_162 : decode cX12_share 162 = .ok (.iconst 1, 1) := by decide +kernel
theorem dX12_share_163 : decode cX12_share 163 = .ok (.goto 4, 3) := by decide +kernel
theorem dX12_share_166 : decode cX12_share 166 = .ok (.iconst 0, 1) := by decide +kernel
theorem dX12_share_154 : decode cX12_share 154 = .ok (.iconst 0, 1) := by decide +kernel
theorem dX12_share_192 : decode cX12_share 192 = .ok (.isub, 1) := by decide +kernel
theorem dX12_share_193 : decode cX12_share 193 = .ok (.istore_n 2, 1) := by decide +kernel
theorem dX12_share_194 : decode cX12_share 194 = .ok (.iinc 3 1, 3) := by decide +kernel
theorem dX12_share_197 : decode cX12_share 197 = .ok (.goto (-171), 3) := by decide +kernel
theorem dX12_share_175 : decode cX12_share 175 = .ok (.iload_n 2, 1) := by decide +kernel
theorem dX12_share_176 : decode cX12_share 176 = .ok (.iload 4, 2) := by decide +kernel
theorem dX12_share_178 : decode cX12_share 178 = .ok (.ifCond .eq 13, 3) := by decide +kernel
theorem dX12_share_191 : decode cX12_share 191 = .ok (.iconst 0, 1) := by decide +kernel
theorem dX12_share_181 : decode cX12_share 181 = .ok (.aload_n 0, 1) := by decide +kernel
theorem dX12_share_182 : decode cX12_share 182 = .ok (.iload_n 3, 1) := by decide +kernel
theorem dX12_share_183 : decode cX12_share 183 = .ok (.bipush 7, 2) := by decide +kernel
theorem dX12_share_185 : decode cX12_share 185 = .ok (.invokevirtual 269, 3) := by decide +kernel
theorem dX12_share_188 : decode cX12_share 188 = .ok (.goto 4, 3) := by decide +kernel
theorem dX12_share_75 : decode cX12_share 75 = .ok (.iload 5, 2) := by decide +kernel
theorem dX12_share_77 : decode cX12_share 77 = .ok (.iload_n 3, 1) := by decide +kernel
theorem dX12_share_78 : decode cX12_share 78 = .ok (.if_icmp .ge 97, 3) := by decide +kernel
theorem dX12_share_81 : decode cX12_share 81 = .ok (.iload 4, 2) := by decide +kernel
theorem dX12_share_83 : decode cX12_share 83 = .ok (.ifCond .eq 92, 3) := by decide +kernel
theorem dX12_share_86 : decode cX12_share 86 = .ok (.aload_n 0, 1) := by decide +kernel
theorem dX12_share_87 : decode cX12_share 87 = .ok (.iload 5, 2) := by decide +kernel
theorem dX12_share_89 : decode cX12_share 89 = .ok (.iconst 1, 1) := by decide +kernel
theorem dX12_share_90 : decode cX12_share 90 = .ok (.invokevirtual 269, 3) := by decide +kernel
theorem dX12_share_93 : decode cX12_share 93 = .ok (.iload_n 1, 1) := by decide +kernel
theorem dX12_share_94 : decode cX12_share 94 = .ok (.if_icmp .ne 60, 3) := by decide +kernel
theorem dX12_share_97 : decode cX12_share 97 = .ok (.aload_n 0, 1) := by decide +kernel
theorem dX12_share_98 : decode cX12_share 98 = .ok (.iload 5, 2) := by decide +kernel
theorem dX12_share_100 : decode cX12_share 100 = .ok (.iconst 3, 1) := by decide +kernel
theorem dX12_share_101 : decode cX12_share 101 = .ok (.invokevirtual 269, 3) := by decide +kernel
theorem dX12_share_104 : decode cX12_share 104 = .ok (.ifCond .ne 50, 3) := by decide +kernel
theorem dX12_share_107 : decode cX12_share 107 = .ok (.aload_n 0, 1) := by decide +kernel
theorem dX12_share_108 : decode cX12_share 108 = .ok (.iload 5, 2) := by decide +kernel
theorem dX12_share_110 : decode cX12_share 110 = .ok (.iconst 4, 1) := by decide +kernel
theorem dX12_share_111 : decode cX12_share 111 = .ok (.invokevirtual 269, 3) := by decide +kernel
theorem dX12_share_114 : decode cX12_share 114 = .ok (.iconst 1, 1) := by decide +kernel
theorem dX12_share_115 : decode cX12_share 115 = .ok (.if_icmp .ne 39, 3) := by decide +kernel
theorem dX12_share_118 : decode cX12_share 118 = .ok (.aload_n 0, 1) := by decide +kernel
theorem dX12_share_119 : decode cX12_share 119 = .ok (.iload 5, 2) := by decide +kernel
theorem dX12_share_121 : decode cX12_share 121 = .ok (.iconst 0, 1) := by decide +kernel
theorem dX12_share_122 : decode cX12_share 122 = .ok (.invokevirtual 269, 3) := by decide +kernel
theorem dX12_share_125 : decode cX12_share 125 = .ok (.aload_n 0, 1) := by decide +kernel
theorem dX12_share_126 : decode cX12_share 126 = .ok (.iload_n 3, 1) := by decide +kernel
theorem dX12_share_127 : decode cX12_share 127 = .ok (.iconst 0, 1) := by decide +kernel
theorem dX12_share_128 : decode cX12_share 128 = .ok (.invokevirtual 269, 3) := by decide +kernel
theorem dX12_share_131 : decode cX12_share 131 = .ok (.if_icmp .ne 23, 3) := by decide +kernel
theorem dX12_share_134 : decode cX12_share 134 = .ok (.aload_n 0, 1) := by decide +kernel
theorem dX12_share_135 : decode cX12_share 135 = .ok (.iload 5, 2) := by decide +kernel
theorem dX12_share_137 : decode cX12_share 137 = .ok (.iconst 2, 1) := by decide +kernel
theorem dX12_share_138 : decode cX12_share 138 = .ok (.invokevirtual 269, 3) := by decide +kernel
theorem dX12_share_141 : decode cX12_share 141 = .ok (.aload_n 0, 1) := by decide +kernel
theorem dX12_share_142 : decode cX12_share 142 = .ok (.iload_n 3, 1) := by decide +kernel
theorem dX12_share_143 : decode cX12_share 143 = .ok (.iconst 2, 1) := by decide +kernel
theorem dX12_share_144 : decode cX12_share 144 = .ok (.invokevirtual 269, 3) := by decide +kernel
theorem dX12_share_147 : decode cX12_share 147 = .ok (.if_icmp .ne 7, 3) := by decide +kernel
theorem dX12_share_150 : decode cX12_share 150 = .ok (.iconst 1, 1) := by decide +kernel
theorem dX12_share_151 : decode cX12_share 151 = .ok (.goto 4, 3) := by decide +kernel
theorem dX12_share_70 : decode cX12_share 70 = .ok (.istore 4, 2) := by decide +kernel
theorem dX12_share_72 : decode cX12_share 72 = .ok (.iconst 0, 1) := by decide +kernel
theorem dX12_share_73 : decode cX12_share 73 = .ok (.istore 5, 2) := by decide +kernel
theorem dX12_share_69 : decode cX12_share 69 = .ok (.iconst 0, 1) := by decide +kernel
theorem dX12_share_26 : decode cX12_share 26 = .ok (.iload_n 3, 1) := by decide +kernel
theorem dX12_share_27 : decode cX12_share 27 = .ok (.aload_n 0, 1) := by decide +kernel
theorem dX12_share_28 : decode cX12_share 28 = .ok (.getfield 9, 3) := by decide +kernel
theorem dX12_share_31 : decode cX12_share 31 = .ok (.iconst 4, 1) := by decide +kernel
theorem dX12_share_32 : decode cX12_share 32 = .ok (.iaload, 1) := by decide +kernel
theorem dX12_share_33 : decode cX12_share 33 = .ok (.if_icmp .ge 167, 3) := by decide +kernel
theorem dX12_share_200 : decode cX12_share 200 = .ok (.iload_n 2, 1) := by decide +kernel
theorem dX12_share_201 : decode cX12_share 201 = .ok (.ireturn, 1) := by decide +kernel
theorem dX12_share_36 : decode cX12_share 36 = .ok (.aload_n 0, 1) := by decide +kernel
theorem dX12_share_37 : decode cX12_share 37 = .ok (.iload_n 3, 1) := by decide +kernel
theorem dX12_share_38 : decode cX12_share 38 = .ok (.iconst 1, 1) := by decide +kernel
theorem dX12_share_39 : decode cX12_share 39 = .ok (.invokevirtual 269, 3) := by decide +kernel
theorem dX12_share_42 : decode cX12_share 42 = .ok (.iload_n 1, 1) := by decide +kernel
theorem dX12_share_43 : decode cX12_share 43 = .ok (.if_icmp .ne 26, 3) := by decide +kernel
theorem dX12_share_46 : decode cX12_share 46 = .ok (.aload_n 0, 1) := by decide +kernel
theorem dX12_share_47 : decode cX12_share 47 = .ok (.iload_n 3, 1) := by decide +kernel
theorem dX12_share_48 : decode cX12_share 48 = .ok (.iconst 3, 1) := by decide +kernel
theorem dX12_share_49 : decode cX12_share 49 = .ok (.invokevirtual 269, 3) := by decide +kernel
theorem dX12_share_52 : decode cX12_share 52 = .ok (.ifCond .ne 17, 3) := by decide +kernel
theorem dX12_share_55 : decode cX12_share 55 = .ok (.aload_n 0, 1) := by decide +kernel
theorem dX12_share_56 : decode cX12_share 56 = .ok (.iload_n 3, 1) := by decide +kernel
theorem dX12_share_57 : decode cX12_share 57 = .ok (.iconst 4, 1) := by decide +kernel
theorem dX12_share_58 : decode cX12_share 58 = .ok (.invokevirtual 269, 3) := by decide +kernel
theorem dX12_share_61 : decode cX12_share 61 = .ok (.iconst 1, 1) := by decide +kernel
theorem dX12_share_62 : decode cX12_share 62 = .ok (.if_icmp .ne 7, 3) := by decide +kernel
theorem dX12_share_65 : decode cX12_share 65 = .ok (.iconst 1, 1) := by decide +kernel
theorem dX12_share_66 : decode cX12_share 66 = .ok (.goto 4, 3) := by decide +kernel
theorem dX12_share_0 : decode cX12_share 0 = .ok (.iload_n 1, 1) := by decide +kernel
theorem dX12_share_1 : decode cX12_share 1 = .ok (.invokestatic 155, 3) := by decide +kernel
theorem dX12_share_4 : decode cX12_share 4 = .ok (.ifCond .ne 9, 3) := by decide +kernel
theorem dX12_share_7 : decode cX12_share 7 = .ok (.aload_n 0, 1) := by decide +kernel
theorem dX12_share_8 : decode cX12_share 8 = .ok (.iconst 1, 1) := by decide +kernel
theorem dX12_share_9 : decode cX12_share 9 = .ok (.invokevirtual 80, 3) := by decide +kernel
theorem dX12_share_12 : decode cX12_share 12 = .ok (.ireturn, 1) := by decide +kernel
theorem dX12_share_13 : decode cX12_share 13 = .ok (.aload_n 0, 1) := by decide +kernel
theorem dX12_share_14 : decode cX12_share 14 = .ok (.getfield 9, 3) := by decide +kernel
theorem dX12_share_17 : decode cX12_share 17 = .ok (.iload_n 1, 1) := by decide +kernel
theorem dX12_share_18 : decode cX12_share 18 = .ok (.iconst 0, 1) := by decide +kernel
theorem dX12_share_19 : decode cX12_share 19 = .ok (.invokestatic 123, 3) := by decide +kernel
theorem dX12_share_22 : decode cX12_share 22 = .ok (.iaload, 1) := by decide +kernel
theorem dX12_share_23 : decode cX12_share 23 = .ok (.istore_n 2, 1) := by decide +kernel
theorem dX12_share_24 : decode cX12_share 24 = .ok (.iconst 0, 1) := by decide +kernel
theorem dX12_share_25 : decode cX12_share 25 = .ok (.istore_n 3, 1) := by decide +kernel
def D_X12_share_167 (N : Nat) (k26 : mh_H → Nat → Int32 → Int32 → Int32 → Option (Int32 × mh_H)) (k75 : mh_H → Nat → Int32 → Int32 → Int32 → Int32 → Int32 → Option (Int32 × mh_H)) (h : mh_H) (l0 : Nat) (l1 : Int32) (l2 : Int32) (l3 : Int32) (l5 : Int32) (s0 : Int32) : Option (Int32 × mh_H) :=
  k75 h l0 l1 l2 l3 s0 (l5 + Int32.ofInt (1))
set_option maxHeartbeats 4000000 in
set_option maxRecDepth 100000 in
theorem T_X12_share_167 {P : mh_E → Prop} {N d : Nat} (hd : 3 ≤ d) {z : (Int32 × mh_H)} {k26 : mh_H → Nat → Int32 → Int32 → Int32 → Option (Int32 × mh_H)} (hk26 : ∀ (h : mh_H) (l0 : Nat) (l1 : Int32) (l2 : Int32) (l3 : Int32), k26 h l0 l1 l2 l3 = some z → mh_go P d mX12_share 26 [some (.ref l0), some (.int l1), some (.int l2), some (.int l3), none, none, none] [] h (some (.int z.1)) z.2) {k75 : mh_H → Nat → Int32 → Int32 → Int32 → Int32 → Int32 → Option (Int32 × mh_H)} (hk75 : ∀ (h : mh_H) (l0 : Nat) (l1 : Int32) (l2 : Int32) (l3 : Int32) (l4 : Int32) (l5 : Int32), k75 h l0 l1 l2 l3 l4 l5 = some z → mh_go P d mX12_share 75 [some (.ref l0), some (.int l1), some (.int l2), some (.int l3), some (.int l4), some (.int l5), none] [] h (some (.int z.1)) z.2) {h : mh_H} {l0 : Nat} {l1 : Int32} {l2 : Int32} {l3 : Int32} {l5 : Int32} {s0 : Int32} (hq : D_X12_share_167 N k26 k75 h l0 l1 l2 l3 l5 s0 = some z) : mh_go P d mX12_share 167 [some (.ref l0), some (.int l1), some (.int l2), some (.int l3), none, some (.int l5), none] [.int s0] h (some (.int z.1)) z.2 := by
  unfold D_X12_share_167 at hq
  refine st_istore (pc := 167) (lv' := [some (.ref l0), some (.int l1), some (.int l2), some (.int l3), some (.int s0), some (.int l5), none]) dX12_share_167 rfl (by decide) rfl ?_
  refine st_iinc (pc := 169) (lv' := [some (.ref l0), some (.int l1), some (.int l2), some (.int l3), some (.int s0), some (.int (l5 + Int32.ofInt (1))), none]) dX12_share_169 rfl rfl (by decide) rfl ?_
  refine st_goto (pc := 172) (tgt := 75) dX12_share_172 (by decide) ?_
  exact hk75 _ _ _ _ _ _ _ hq
def D_X12_share_155 (N : Nat) (k26 : mh_H → Nat → Int32 → Int32 → Int32 → Option (Int32 × mh_H)) (k75 : mh_H → Nat → Int32 → Int32 → Int32 → Int32 → Int32 → Option (Int32 × mh_H)) (h : mh_H) (l0 : Nat) (l1 : Int32) (l2 : Int32) (l3 : Int32) (l5 : Int32) (s0 : Int32) : Option (Int32 × mh_H) :=
  if s0 = 0 then (D_X12_share_167 N k26 k75 h l0 l1 l2 l3 l5 (1 : Int32))
  else (D_X12_share_167 N k26 k75 h l0 l1 l2 l3 l5 (0 : Int32))
set_option maxHeartbeats 4000000 in
set_option maxRecDepth 100000 in
theorem T_X12_share_155 {P : mh_E → Prop} {N d : Nat} (hd : 3 ≤ d) {z : (Int32 × mh_H)} {k26 : mh_H → Nat → Int32 → Int32 → Int32 → Option (Int32 × mh_H)} (hk26 : ∀ (h : mh_H) (l0 : Nat) (l1 : Int32) (l2 : Int32) (l3 : Int32), k26 h l0 l1 l2 l3 = some z → mh_go P d mX12_share 26 [some (.ref l0), some (.int l1), some (.int l2), some (.int l3), none, none, none] [] h (some (.int z.1)) z.2) {k75 : mh_H → Nat → Int32 → Int32 → Int32 → Int32 → Int32 → Option (Int32 × mh_H)} (hk75 : ∀ (h : mh_H) (l0 : Nat) (l1 : Int32) (l2 : Int32) (l3 : Int32) (l4 : Int32) (l5 : Int32), k75 h l0 l1 l2 l3 l4 l5 = some z → mh_go P d mX12_share 75 [some (.ref l0), some (.int l1), some (.int l2), some (.int l3), some (.int l4), some (.int l5), none] [] h (some (.int z.1)) z.2) {h : mh_H} {l0 : Nat} {l1 : Int32} {l2 : Int32} {l3 : Int32} {l5 : Int32} {s0 : Int32} (hq : D_X12_share_155 N k26 k75 h l0 l1 l2 l3 l5 s0 = some z) : mh_go P d mX12_share 155 [some (.ref l0), some (.int l1), some (.int l2), some (.int l3), none, some (.int l5), none] [.int s0] h (some (.int z.1)) z.2 := by
  unfold D_X12_share_155 at hq
  refine st_istore (pc := 155) (lv' := [some (.ref l0), some (.int l1), some (.int l2), some (.int l3), none, some (.int l5), some (.int s0)]) dX12_share_155 rfl (by decide) rfl ?_
  refine st_iload (pc := 157) dX12_share_157 rfl ?_
  refine bd_if_ne (pc := 159) (tgt := 166) hq dX12_share_159 (by decide) (fun _ hq => ?_) (fun _ hq => ?_)
  ·
    refine st_iconst (pc := 162) (v := (1 : Int32)) dX12_share_162 rfl ?_
    refine st_goto (pc := 163) (tgt := 167) dX12_share_163 (by decide) ?_
    refine st_lesS (lv' := [some (.ref l0), some (.int l1), some (.int l2), some (.int l3), none, some (.int l5), none]) ⟨Or.inr rfl, Or.inr rfl, Or.inr rfl, Or.inr rfl, Or.inr rfl, Or.inr rfl, Or.inl rfl, trivial⟩ ?_
    exact T_X12_share_167 hd hk26 hk75 hq
  ·
    refine st_iconst (pc := 166) (v := (0 : Int32)) dX12_share_166 rfl ?_
    refine st_lesS (lv' := [some (.ref l0), some (.int l1), some (.int l2), some (.int l3), none, some (.int l5), none]) ⟨Or.inr rfl, Or.inr rfl, Or.inr rfl, Or.inr rfl, Or.inr rfl, Or.inr rfl, Or.inl rfl, trivial⟩ ?_
    exact T_X12_share_167 hd hk26 hk75 hq
def D_X12_share_154 (N : Nat) (k26 : mh_H → Nat → Int32 → Int32 → Int32 → Option (Int32 × mh_H)) (k75 : mh_H → Nat → Int32 → Int32 → Int32 → Int32 → Int32 → Option (Int32 × mh_H)) (h : mh_H) (l0 : Nat) (l1 : Int32) (l2 : Int32) (l3 : Int32) (l5 : Int32) : Option (Int32 × mh_H) :=
  D_X12_share_155 N k26 k75 h l0 l1 l2 l3 l5 (0 : Int32)
set_option maxHeartbeats 4000000 in
set_option maxRecDepth 100000 in
theorem T_X12_share_154 {P : mh_E → Prop} {N d : Nat} (hd : 3 ≤ d) {z : (Int32 × mh_H)} {k26 : mh_H → Nat → Int32 → Int32 → Int32 → Option (Int32 × mh_H)} (hk26 : ∀ (h : mh_H) (l0 : Nat) (l1 : Int32) (l2 : Int32) (l3 : Int32), k26 h l0 l1 l2 l3 = some z → mh_go P d mX12_share 26 [some (.ref l0), some (.int l1), some (.int l2), some (.int l3), none, none, none] [] h (some (.int z.1)) z.2) {k75 : mh_H → Nat → Int32 → Int32 → Int32 → Int32 → Int32 → Option (Int32 × mh_H)} (hk75 : ∀ (h : mh_H) (l0 : Nat) (l1 : Int32) (l2 : Int32) (l3 : Int32) (l4 : Int32) (l5 : Int32), k75 h l0 l1 l2 l3 l4 l5 = some z → mh_go P d mX12_share 75 [some (.ref l0), some (.int l1), some (.int l2), some (.int l3), some (.int l4), some (.int l5), none] [] h (some (.int z.1)) z.2) {h : mh_H} {l0 : Nat} {l1 : Int32} {l2 : Int32} {l3 : Int32} {l5 : Int32} (hq : D_X12_share_154 N k26 k75 h l0 l1 l2 l3 l5 = some z) : mh_go P d mX12_share 154 [some (.ref l0), some (.int l1), some (.int l2), some (.int l3), none, some (.int l5), none] [] h (some (.int z.1)) z.2 := by
  unfold D_X12_share_154 at hq
  refine st_iconst (pc := 154) (v := (0 : Int32)) dX12_share_154 rfl ?_
  exact T_X12_share_155 hd hk26 hk75 hq
def D_X12_share_192 (N : Nat) (k26 : mh_H → Nat → Int32 → Int32 → Int32 → Option (Int32 × mh_H)) (h : mh_H) (l0 : Nat) (l1 : Int32) (l3 : Int32) (s0 : Int32) (s1 : Int32) : Option (Int32 × mh_H) :=
  k26 h l0 l1 (s0 - s1) (l3 + Int32.ofInt (1))
set_option maxHeartbeats 4000000 in
set_option maxRecDepth 100000 in
theorem T_X12_share_192 {P : mh_E → Prop} {N d : Nat} (hd : 3 ≤ d) {z : (Int32 × mh_H)} {k26 : mh_H → Nat → Int32 → Int32 → Int32 → Option (Int32 × mh_H)} (hk26 : ∀ (h : mh_H) (l0 : Nat) (l1 : Int32) (l2 : Int32) (l3 : Int32), k26 h l0 l1 l2 l3 = some z → mh_go P d mX12_share 26 [some (.ref l0), some (.int l1), some (.int l2), some (.int l3), none, none, none] [] h (some (.int z.1)) z.2) {h : mh_H} {l0 : Nat} {l1 : Int32} {l3 : Int32} {s0 : Int32} {s1 : Int32} (hq : D_X12_share_192 N k26 h l0 l1 l3 s0 s1 = some z) : mh_go P d mX12_share 192 [some (.ref l0), some (.int l1), none, some (.int l3), none, none, none] [.int s1, .int s0] h (some (.int z.1)) z.2 := by
  unfold D_X12_share_192 at hq
  refine st_isub (pc := 192) dX12_share_192 ?_
  refine st_istore_n (pc := 193) (lv' := [some (.ref l0), some (.int l1), some (.int (s0 - s1)), some (.int l3), none, none, none]) dX12_share_193 rfl (by decide) rfl ?_
  refine st_iinc (pc := 194) (lv' := [some (.ref l0), some (.int l1), some (.int (s0 - s1)), some (.int (l3 + Int32.ofInt (1))), none, none, none]) dX12_share_194 rfl rfl (by decide) rfl ?_
  refine st_goto (pc := 197) (tgt := 26) dX12_share_197 (by decide) ?_
  exact hk26 _ _ _ _ _ hq
def D_X12_share_175 (N : Nat) (k26 : mh_H → Nat → Int32 → Int32 → Int32 → Option (Int32 × mh_H)) (h : mh_H) (l0 : Nat) (l1 : Int32) (l2 : Int32) (l3 : Int32) (l4 : Int32) : Option (Int32 × mh_H) :=
  if l4 = 0 then (D_X12_share_192 N k26 h l0 l1 l3 l2 (0 : Int32))
  else (kO h 12 l0 <|
  (D_X12_look N h l0 l3 (7 : Int32)).bind fun q1 =>
  D_X12_share_192 N k26 q1.2 l0 l1 l3 l2 q1.1)
set_option maxHeartbeats 4000000 in
set_option maxRecDepth 100000 in
theorem T_X12_share_175 {P : mh_E → Prop} {N d : Nat} (hd : 3 ≤ d) {z : (Int32 × mh_H)} {k26 : mh_H → Nat → Int32 → Int32 → Int32 → Option (Int32 × mh_H)} (hk26 : ∀ (h : mh_H) (l0 : Nat) (l1 : Int32) (l2 : Int32) (l3 : Int32), k26 h l0 l1 l2 l3 = some z → mh_go P d mX12_share 26 [some (.ref l0), some (.int l1), some (.int l2), some (.int l3), none, none, none] [] h (some (.int z.1)) z.2) {h : mh_H} {l0 : Nat} {l1 : Int32} {l2 : Int32} {l3 : Int32} {l4 : Int32} (hq : D_X12_share_175 N k26 h l0 l1 l2 l3 l4 = some z) : mh_go P d mX12_share 175 [some (.ref l0), some (.int l1), some (.int l2), some (.int l3), some (.int l4), none, none] [] h (some (.int z.1)) z.2 := by
  unfold D_X12_share_175 at hq
  refine st_iload_n (pc := 175) dX12_share_175 rfl ?_
  refine st_iload (pc := 176) dX12_share_176 rfl ?_
  refine bd_if_eq (pc := 178) (tgt := 191) hq dX12_share_178 (by decide) (fun _ hq => ?_) (fun _ hq => ?_)
  ·
    refine st_iconst (pc := 191) (v := (0 : Int32)) dX12_share_191 rfl ?_
    refine st_lesS (lv' := [some (.ref l0), some (.int l1), none, some (.int l3), none, none, none]) ⟨Or.inr rfl, Or.inr rfl, Or.inl rfl, Or.inr rfl, Or.inl rfl, Or.inr rfl, Or.inr rfl, trivial⟩ ?_
    exact T_X12_share_192 hd hk26 hq
  ·
    refine st_aload_n (pc := 181) dX12_share_181 rfl ?_
    refine st_iload_n (pc := 182) dX12_share_182 rfl ?_
    refine st_bipush (pc := 183) (v := (7 : Int32)) dX12_share_183 (by decide) ?_
    obtain ⟨⟨hbq1, hkq1⟩, hq⟩ := mh_oi hq
    obtain ⟨q1, e1, hq⟩ := mh_ob hq
    refine st_invV (pc := 185) (ci := 12) (vs := [.int l3, .int (7 : Int32)]) (rest := [.int l2]) (st2 := [.int q1.1, .int l2]) dX12_share_185 okX12_look (by decide) hkq1 hbq1 wd_1564 wd_1566 wp_75 pdX12_look rfl rfl rfl rfl (Nat.le_trans (by decide) hd) (Nat.le_of_ble_eq_true rfl) (T_X12_look (Nat.le_refl _) e1) rfl ?_
    refine st_goto (pc := 188) (tgt := 192) dX12_share_188 (by decide) ?_
    refine st_lesS (lv' := [some (.ref l0), some (.int l1), none, some (.int l3), none, none, none]) ⟨Or.inr rfl, Or.inr rfl, Or.inl rfl, Or.inr rfl, Or.inl rfl, Or.inr rfl, Or.inr rfl, trivial⟩ ?_
    exact T_X12_share_192 hd hk26 hq
def D_X12_share_75 (N : Nat) (k26 : mh_H → Nat → Int32 → Int32 → Int32 → Option (Int32 × mh_H)) : Nat → mh_H → Nat → Int32 → Int32 → Int32 → Int32 → Int32 → Option (Int32 × mh_H)
  | 0, _, _, _, _, _, _, _ => none
  | F + 1, h, l0, l1, l2, l3, l4, l5 =>
    if l3 ≤ l5 then (D_X12_share_175 N k26 h l0 l1 l2 l3 l4)
    else (if l4 = 0 then (D_X12_share_175 N k26 h l0 l1 l2 l3 l4)
    else (kO h 12 l0 <|
    (D_X12_look N h l0 l5 (1 : Int32)).bind fun q1 =>
    if q1.1 = l1 then (kO q1.2 12 l0 <|
    (D_X12_look N q1.2 l0 l5 (3 : Int32)).bind fun q2 =>
    if q2.1 = 0 then (kO q2.2 12 l0 <|
    (D_X12_look N q2.2 l0 l5 (4 : Int32)).bind fun q3 =>
    if q3.1 = (1 : Int32) then (kO q3.2 12 l0 <|
    (D_X12_look N q3.2 l0 l5 (0 : Int32)).bind fun q4 =>
    kO q4.2 12 l0 <|
    (D_X12_look N q4.2 l0 l3 (0 : Int32)).bind fun q5 =>
    if q4.1 = q5.1 then (kO q5.2 12 l0 <|
    (D_X12_look N q5.2 l0 l5 (2 : Int32)).bind fun q6 =>
    kO q6.2 12 l0 <|
    (D_X12_look N q6.2 l0 l3 (2 : Int32)).bind fun q7 =>
    if q6.1 = q7.1 then (D_X12_share_155 N k26 (D_X12_share_75 N k26 F) q7.2 l0 l1 l2 l3 l5 (1 : Int32))
    else (D_X12_share_154 N k26 (D_X12_share_75 N k26 F) q7.2 l0 l1 l2 l3 l5))
    else (D_X12_share_154 N k26 (D_X12_share_75 N k26 F) q5.2 l0 l1 l2 l3 l5))
    else (D_X12_share_154 N k26 (D_X12_share_75 N k26 F) q3.2 l0 l1 l2 l3 l5))
    else (D_X12_share_154 N k26 (D_X12_share_75 N k26 F) q2.2 l0 l1 l2 l3 l5))
    else (D_X12_share_154 N k26 (D_X12_share_75 N k26 F) q1.2 l0 l1 l2 l3 l5)))
set_option maxHeartbeats 4000000 in
set_option maxRecDepth 100000 in
theorem T_X12_share_75 {P : mh_E → Prop} {N d : Nat} (hd : 3 ≤ d) {z : (Int32 × mh_H)} {k26 : mh_H → Nat → Int32 → Int32 → Int32 → Option (Int32 × mh_H)} (hk26 : ∀ (h : mh_H) (l0 : Nat) (l1 : Int32) (l2 : Int32) (l3 : Int32), k26 h l0 l1 l2 l3 = some z → mh_go P d mX12_share 26 [some (.ref l0), some (.int l1), some (.int l2), some (.int l3), none, none, none] [] h (some (.int z.1)) z.2) : ∀ (F : Nat) (h : mh_H) (l0 : Nat) (l1 : Int32) (l2 : Int32) (l3 : Int32) (l4 : Int32) (l5 : Int32), D_X12_share_75 N k26 F h l0 l1 l2 l3 l4 l5 = some z → mh_go P d mX12_share 75 [some (.ref l0), some (.int l1), some (.int l2), some (.int l3), some (.int l4), some (.int l5), none] [] h (some (.int z.1)) z.2 := by
  intro F
  induction F with
  | zero => intro h l0 l1 l2 l3 l4 l5 hq; rw [D_X12_share_75] at hq; cases hq
  | succ F ih =>
    intro h l0 l1 l2 l3 l4 l5 hq
    rw [D_X12_share_75] at hq
    refine st_iload (pc := 75) dX12_share_75 rfl ?_
    refine st_iload_n (pc := 77) dX12_share_77 rfl ?_
    refine bd_icmp_ge (pc := 78) (tgt := 175) hq dX12_share_78 (by decide) (fun _ hq => ?_) (fun _ hq => ?_)
    ·
      refine st_lesS (lv' := [some (.ref l0), some (.int l1), some (.int l2), some (.int l3), some (.int l4), none, none]) ⟨Or.inr rfl, Or.inr rfl, Or.inr rfl, Or.inr rfl, Or.inr rfl, Or.inl rfl, Or.inr rfl, trivial⟩ ?_
      exact T_X12_share_175 hd hk26 hq
    ·
      refine st_iload (pc := 81) dX12_share_81 rfl ?_
      refine bd_if_eq (pc := 83) (tgt := 175) hq dX12_share_83 (by decide) (fun _ hq => ?_) (fun _ hq => ?_)
      ·
        refine st_lesS (lv' := [some (.ref l0), some (.int l1), some (.int l2), some (.int l3), some (.int l4), none, none]) ⟨Or.inr rfl, Or.inr rfl, Or.inr rfl, Or.inr rfl, Or.inr rfl, Or.inl rfl, Or.inr rfl, trivial⟩ ?_
        exact T_X12_share_175 hd hk26 hq
      ·
        refine st_aload_n (pc := 86) dX12_share_86 rfl ?_
        refine st_iload (pc := 87) dX12_share_87 rfl ?_
        refine st_iconst (pc := 89) (v := (1 : Int32)) dX12_share_89 rfl ?_
        obtain ⟨⟨hbq1, hkq1⟩, hq⟩ := mh_oi hq
        obtain ⟨q1, e1, hq⟩ := mh_ob hq
        refine st_invV (pc := 90) (ci := 12) (vs := [.int l5, .int (1 : Int32)]) (rest := []) (st2 := [.int q1.1]) dX12_share_90 okX12_look (by decide) hkq1 hbq1 wd_1564 wd_1566 wp_75 pdX12_look rfl rfl rfl rfl (Nat.le_trans (by decide) hd) (Nat.le_of_ble_eq_true rfl) (T_X12_look (Nat.le_refl _) e1) rfl ?_
        refine st_iload_n (pc := 93) dX12_share_93 rfl ?_
        refine bd_icmp_ne (pc := 94) (tgt := 154) hq dX12_share_94 (by decide) (fun _ hq => ?_) (fun _ hq => ?_)
        ·
          refine st_aload_n (pc := 97) dX12_share_97 rfl ?_
          refine st_iload (pc := 98) dX12_share_98 rfl ?_
          refine st_iconst (pc := 100) (v := (3 : Int32)) dX12_share_100 rfl ?_
          obtain ⟨⟨hbq2, hkq2⟩, hq⟩ := mh_oi hq
          obtain ⟨q2, e2, hq⟩ := mh_ob hq
          refine st_invV (pc := 101) (ci := 12) (vs := [.int l5, .int (3 : Int32)]) (rest := []) (st2 := [.int q2.1]) dX12_share_101 okX12_look (by decide) hkq2 hbq2 wd_1564 wd_1566 wp_75 pdX12_look rfl rfl rfl rfl (Nat.le_trans (by decide) hd) (Nat.le_of_ble_eq_true rfl) (T_X12_look (Nat.le_refl _) e2) rfl ?_
          refine bd_if_ne (pc := 104) (tgt := 154) hq dX12_share_104 (by decide) (fun _ hq => ?_) (fun _ hq => ?_)
          ·
            refine st_aload_n (pc := 107) dX12_share_107 rfl ?_
            refine st_iload (pc := 108) dX12_share_108 rfl ?_
            refine st_iconst (pc := 110) (v := (4 : Int32)) dX12_share_110 rfl ?_
            obtain ⟨⟨hbq3, hkq3⟩, hq⟩ := mh_oi hq
            obtain ⟨q3, e3, hq⟩ := mh_ob hq
            refine st_invV (pc := 111) (ci := 12) (vs := [.int l5, .int (4 : Int32)]) (rest := []) (st2 := [.int q3.1]) dX12_share_111 okX12_look (by decide) hkq3 hbq3 wd_1564 wd_1566 wp_75 pdX12_look rfl rfl rfl rfl (Nat.le_trans (by decide) hd) (Nat.le_of_ble_eq_true rfl) (T_X12_look (Nat.le_refl _) e3) rfl ?_
            refine st_iconst (pc := 114) (v := (1 : Int32)) dX12_share_114 rfl ?_
            refine bd_icmp_ne (pc := 115) (tgt := 154) hq dX12_share_115 (by decide) (fun _ hq => ?_) (fun _ hq => ?_)
            ·
              refine st_aload_n (pc := 118) dX12_share_118 rfl ?_
              refine st_iload (pc := 119) dX12_share_119 rfl ?_
              refine st_iconst (pc := 121) (v := (0 : Int32)) dX12_share_121 rfl ?_
              obtain ⟨⟨hbq4, hkq4⟩, hq⟩ := mh_oi hq
              obtain ⟨q4, e4, hq⟩ := mh_ob hq
              refine st_invV (pc := 122) (ci := 12) (vs := [.int l5, .int (0 : Int32)]) (rest := []) (st2 := [.int q4.1]) dX12_share_122 okX12_look (by decide) hkq4 hbq4 wd_1564 wd_1566 wp_75 pdX12_look rfl rfl rfl rfl (Nat.le_trans (by decide) hd) (Nat.le_of_ble_eq_true rfl) (T_X12_look (Nat.le_refl _) e4) rfl ?_
              refine st_aload_n (pc := 125) dX12_share_125 rfl ?_
              refine st_iload_n (pc := 126) dX12_share_126 rfl ?_
              refine st_iconst (pc := 127) (v := (0 : Int32)) dX12_share_127 rfl ?_
              obtain ⟨⟨hbq5, hkq5⟩, hq⟩ := mh_oi hq
              obtain ⟨q5, e5, hq⟩ := mh_ob hq
              refine st_invV (pc := 128) (ci := 12) (vs := [.int l3, .int (0 : Int32)]) (rest := [.int q4.1]) (st2 := [.int q5.1, .int q4.1]) dX12_share_128 okX12_look (by decide) hkq5 hbq5 wd_1564 wd_1566 wp_75 pdX12_look rfl rfl rfl rfl (Nat.le_trans (by decide) hd) (Nat.le_of_ble_eq_true rfl) (T_X12_look (Nat.le_refl _) e5) rfl ?_
              refine bd_icmp_ne (pc := 131) (tgt := 154) hq dX12_share_131 (by decide) (fun _ hq => ?_) (fun _ hq => ?_)
              ·
                refine st_aload_n (pc := 134) dX12_share_134 rfl ?_
                refine st_iload (pc := 135) dX12_share_135 rfl ?_
                refine st_iconst (pc := 137) (v := (2 : Int32)) dX12_share_137 rfl ?_
                obtain ⟨⟨hbq6, hkq6⟩, hq⟩ := mh_oi hq
                obtain ⟨q6, e6, hq⟩ := mh_ob hq
                refine st_invV (pc := 138) (ci := 12) (vs := [.int l5, .int (2 : Int32)]) (rest := []) (st2 := [.int q6.1]) dX12_share_138 okX12_look (by decide) hkq6 hbq6 wd_1564 wd_1566 wp_75 pdX12_look rfl rfl rfl rfl (Nat.le_trans (by decide) hd) (Nat.le_of_ble_eq_true rfl) (T_X12_look (Nat.le_refl _) e6) rfl ?_
                refine st_aload_n (pc := 141) dX12_share_141 rfl ?_
                refine st_iload_n (pc := 142) dX12_share_142 rfl ?_
                refine st_iconst (pc := 143) (v := (2 : Int32)) dX12_share_143 rfl ?_
                obtain ⟨⟨hbq7, hkq7⟩, hq⟩ := mh_oi hq
                obtain ⟨q7, e7, hq⟩ := mh_ob hq
                refine st_invV (pc := 144) (ci := 12) (vs := [.int l3, .int (2 : Int32)]) (rest := [.int q6.1]) (st2 := [.int q7.1, .int q6.1]) dX12_share_144 okX12_look (by decide) hkq7 hbq7 wd_1564 wd_1566 wp_75 pdX12_look rfl rfl rfl rfl (Nat.le_trans (by decide) hd) (Nat.le_of_ble_eq_true rfl) (T_X12_look (Nat.le_refl _) e7) rfl ?_
                refine bd_icmp_ne (pc := 147) (tgt := 154) hq dX12_share_147 (by decide) (fun _ hq => ?_) (fun _ hq => ?_)
                ·
                  refine st_iconst (pc := 150) (v := (1 : Int32)) dX12_share_150 rfl ?_
                  refine st_goto (pc := 151) (tgt := 155) dX12_share_151 (by decide) ?_
                  refine st_lesS (lv' := [some (.ref l0), some (.int l1), some (.int l2), some (.int l3), none, some (.int l5), none]) ⟨Or.inr rfl, Or.inr rfl, Or.inr rfl, Or.inr rfl, Or.inl rfl, Or.inr rfl, Or.inr rfl, trivial⟩ ?_
                  exact T_X12_share_155 hd hk26 ih hq
                ·
                  refine st_lesS (lv' := [some (.ref l0), some (.int l1), some (.int l2), some (.int l3), none, some (.int l5), none]) ⟨Or.inr rfl, Or.inr rfl, Or.inr rfl, Or.inr rfl, Or.inl rfl, Or.inr rfl, Or.inr rfl, trivial⟩ ?_
                  exact T_X12_share_154 hd hk26 ih hq
              ·
                refine st_lesS (lv' := [some (.ref l0), some (.int l1), some (.int l2), some (.int l3), none, some (.int l5), none]) ⟨Or.inr rfl, Or.inr rfl, Or.inr rfl, Or.inr rfl, Or.inl rfl, Or.inr rfl, Or.inr rfl, trivial⟩ ?_
                exact T_X12_share_154 hd hk26 ih hq
            ·
              refine st_lesS (lv' := [some (.ref l0), some (.int l1), some (.int l2), some (.int l3), none, some (.int l5), none]) ⟨Or.inr rfl, Or.inr rfl, Or.inr rfl, Or.inr rfl, Or.inl rfl, Or.inr rfl, Or.inr rfl, trivial⟩ ?_
              exact T_X12_share_154 hd hk26 ih hq
          ·
            refine st_lesS (lv' := [some (.ref l0), some (.int l1), some (.int l2), some (.int l3), none, some (.int l5), none]) ⟨Or.inr rfl, Or.inr rfl, Or.inr rfl, Or.inr rfl, Or.inl rfl, Or.inr rfl, Or.inr rfl, trivial⟩ ?_
            exact T_X12_share_154 hd hk26 ih hq
        ·
          refine st_lesS (lv' := [some (.ref l0), some (.int l1), some (.int l2), some (.int l3), none, some (.int l5), none]) ⟨Or.inr rfl, Or.inr rfl, Or.inr rfl, Or.inr rfl, Or.inl rfl, Or.inr rfl, Or.inr rfl, trivial⟩ ?_
          exact T_X12_share_154 hd hk26 ih hq
def D_X12_share_70 (N : Nat) (k26 : mh_H → Nat → Int32 → Int32 → Int32 → Option (Int32 × mh_H)) (h : mh_H) (l0 : Nat) (l1 : Int32) (l2 : Int32) (l3 : Int32) (s0 : Int32) : Option (Int32 × mh_H) :=
  D_X12_share_75 N k26 N h l0 l1 l2 l3 s0 (0 : Int32)
set_option maxHeartbeats 4000000 in
set_option maxRecDepth 100000 in
theorem T_X12_share_70 {P : mh_E → Prop} {N d : Nat} (hd : 3 ≤ d) {z : (Int32 × mh_H)} {k26 : mh_H → Nat → Int32 → Int32 → Int32 → Option (Int32 × mh_H)} (hk26 : ∀ (h : mh_H) (l0 : Nat) (l1 : Int32) (l2 : Int32) (l3 : Int32), k26 h l0 l1 l2 l3 = some z → mh_go P d mX12_share 26 [some (.ref l0), some (.int l1), some (.int l2), some (.int l3), none, none, none] [] h (some (.int z.1)) z.2) {h : mh_H} {l0 : Nat} {l1 : Int32} {l2 : Int32} {l3 : Int32} {s0 : Int32} (hq : D_X12_share_70 N k26 h l0 l1 l2 l3 s0 = some z) : mh_go P d mX12_share 70 [some (.ref l0), some (.int l1), some (.int l2), some (.int l3), none, none, none] [.int s0] h (some (.int z.1)) z.2 := by
  unfold D_X12_share_70 at hq
  refine st_istore (pc := 70) (lv' := [some (.ref l0), some (.int l1), some (.int l2), some (.int l3), some (.int s0), none, none]) dX12_share_70 rfl (by decide) rfl ?_
  refine st_iconst (pc := 72) (v := (0 : Int32)) dX12_share_72 rfl ?_
  refine st_istore (pc := 73) (lv' := [some (.ref l0), some (.int l1), some (.int l2), some (.int l3), some (.int s0), some (.int (0 : Int32)), none]) dX12_share_73 rfl (by decide) rfl ?_
  exact T_X12_share_75 hd hk26 N _ _ _ _ _ _ _ hq
def D_X12_share_69 (N : Nat) (k26 : mh_H → Nat → Int32 → Int32 → Int32 → Option (Int32 × mh_H)) (h : mh_H) (l0 : Nat) (l1 : Int32) (l2 : Int32) (l3 : Int32) : Option (Int32 × mh_H) :=
  D_X12_share_70 N k26 h l0 l1 l2 l3 (0 : Int32)
set_option maxHeartbeats 4000000 in
set_option maxRecDepth 100000 in
theorem T_X12_share_69 {P : mh_E → Prop} {N d : Nat} (hd : 3 ≤ d) {z : (Int32 × mh_H)} {k26 : mh_H → Nat → Int32 → Int32 → Int32 → Option (Int32 × mh_H)} (hk26 : ∀ (h : mh_H) (l0 : Nat) (l1 : Int32) (l2 : Int32) (l3 : Int32), k26 h l0 l1 l2 l3 = some z → mh_go P d mX12_share 26 [some (.ref l0), some (.int l1), some (.int l2), some (.int l3), none, none, none] [] h (some (.int z.1)) z.2) {h : mh_H} {l0 : Nat} {l1 : Int32} {l2 : Int32} {l3 : Int32} (hq : D_X12_share_69 N k26 h l0 l1 l2 l3 = some z) : mh_go P d mX12_share 69 [some (.ref l0), some (.int l1), some (.int l2), some (.int l3), none, none, none] [] h (some (.int z.1)) z.2 := by
  unfold D_X12_share_69 at hq
  refine st_iconst (pc := 69) (v := (0 : Int32)) dX12_share_69 rfl ?_
  exact T_X12_share_70 hd hk26 hq
def D_X12_share_26 (N : Nat) : Nat → mh_H → Nat → Int32 → Int32 → Int32 → Option (Int32 × mh_H)
  | 0, _, _, _, _, _ => none
  | F + 1, h, l0, l1, l2, l3 =>
    (gR h 12 l0 0).bind fun v1 =>
    (aI h v1 (4 : Int32)).bind fun v2 =>
    if v2 ≤ l3 then (some (l2, h))
    else (kO h 12 l0 <|
    (D_X12_look N h l0 l3 (1 : Int32)).bind fun q3 =>
    if q3.1 = l1 then (kO q3.2 12 l0 <|
    (D_X12_look N q3.2 l0 l3 (3 : Int32)).bind fun q4 =>
    if q4.1 = 0 then (kO q4.2 12 l0 <|
    (D_X12_look N q4.2 l0 l3 (4 : Int32)).bind fun q5 =>
    if q5.1 = (1 : Int32) then (D_X12_share_70 N (D_X12_share_26 N F) q5.2 l0 l1 l2 l3 (1 : Int32))
    else (D_X12_share_69 N (D_X12_share_26 N F) q5.2 l0 l1 l2 l3))
    else (D_X12_share_69 N (D_X12_share_26 N F) q4.2 l0 l1 l2 l3))
    else (D_X12_share_69 N (D_X12_share_26 N F) q3.2 l0 l1 l2 l3))
set_option maxHeartbeats 4000000 in
set_option maxRecDepth 100000 in
theorem T_X12_share_26 {P : mh_E → Prop} {N d : Nat} (hd : 3 ≤ d) {z : (Int32 × mh_H)} : ∀ (F : Nat) (h : mh_H) (l0 : Nat) (l1 : Int32) (l2 : Int32) (l3 : Int32), D_X12_share_26 N F h l0 l1 l2 l3 = some z → mh_go P d mX12_share 26 [some (.ref l0), some (.int l1), some (.int l2), some (.int l3), none, none, none] [] h (some (.int z.1)) z.2 := by
  intro F
  induction F with
  | zero => intro h l0 l1 l2 l3 hq; rw [D_X12_share_26] at hq; cases hq
  | succ F ih =>
    intro h l0 l1 l2 l3 hq
    rw [D_X12_share_26] at hq
    refine st_iload_n (pc := 26) dX12_share_26 rfl ?_
    refine st_aload_n (pc := 27) dX12_share_27 rfl ?_
    refine bd_getr (pc := 28) hq dX12_share_28 fl_12_9_12 rfl (fun v1 hq => ?_)
    refine st_iconst (pc := 31) (v := (4 : Int32)) dX12_share_31 rfl ?_
    refine bd_iald (pc := 32) hq dX12_share_32 (fun v2 hq => ?_)
    refine bd_icmp_ge (pc := 33) (tgt := 200) hq dX12_share_33 (by decide) (fun _ hq => ?_) (fun _ hq => ?_)
    ·
      refine st_iload_n (pc := 200) dX12_share_200 rfl ?_
      exact bd_iret (pc := 201) hq dX12_share_201 rfl
    ·
      refine st_aload_n (pc := 36) dX12_share_36 rfl ?_
      refine st_iload_n (pc := 37) dX12_share_37 rfl ?_
      refine st_iconst (pc := 38) (v := (1 : Int32)) dX12_share_38 rfl ?_
      obtain ⟨⟨hbq3, hkq3⟩, hq⟩ := mh_oi hq
      obtain ⟨q3, e3, hq⟩ := mh_ob hq
      refine st_invV (pc := 39) (ci := 12) (vs := [.int l3, .int (1 : Int32)]) (rest := []) (st2 := [.int q3.1]) dX12_share_39 okX12_look (by decide) hkq3 hbq3 wd_1564 wd_1566 wp_75 pdX12_look rfl rfl rfl rfl (Nat.le_trans (by decide) hd) (Nat.le_of_ble_eq_true rfl) (T_X12_look (Nat.le_refl _) e3) rfl ?_
      refine st_iload_n (pc := 42) dX12_share_42 rfl ?_
      refine bd_icmp_ne (pc := 43) (tgt := 69) hq dX12_share_43 (by decide) (fun _ hq => ?_) (fun _ hq => ?_)
      ·
        refine st_aload_n (pc := 46) dX12_share_46 rfl ?_
        refine st_iload_n (pc := 47) dX12_share_47 rfl ?_
        refine st_iconst (pc := 48) (v := (3 : Int32)) dX12_share_48 rfl ?_
        obtain ⟨⟨hbq4, hkq4⟩, hq⟩ := mh_oi hq
        obtain ⟨q4, e4, hq⟩ := mh_ob hq
        refine st_invV (pc := 49) (ci := 12) (vs := [.int l3, .int (3 : Int32)]) (rest := []) (st2 := [.int q4.1]) dX12_share_49 okX12_look (by decide) hkq4 hbq4 wd_1564 wd_1566 wp_75 pdX12_look rfl rfl rfl rfl (Nat.le_trans (by decide) hd) (Nat.le_of_ble_eq_true rfl) (T_X12_look (Nat.le_refl _) e4) rfl ?_
        refine bd_if_ne (pc := 52) (tgt := 69) hq dX12_share_52 (by decide) (fun _ hq => ?_) (fun _ hq => ?_)
        ·
          refine st_aload_n (pc := 55) dX12_share_55 rfl ?_
          refine st_iload_n (pc := 56) dX12_share_56 rfl ?_
          refine st_iconst (pc := 57) (v := (4 : Int32)) dX12_share_57 rfl ?_
          obtain ⟨⟨hbq5, hkq5⟩, hq⟩ := mh_oi hq
          obtain ⟨q5, e5, hq⟩ := mh_ob hq
          refine st_invV (pc := 58) (ci := 12) (vs := [.int l3, .int (4 : Int32)]) (rest := []) (st2 := [.int q5.1]) dX12_share_58 okX12_look (by decide) hkq5 hbq5 wd_1564 wd_1566 wp_75 pdX12_look rfl rfl rfl rfl (Nat.le_trans (by decide) hd) (Nat.le_of_ble_eq_true rfl) (T_X12_look (Nat.le_refl _) e5) rfl ?_
          refine st_iconst (pc := 61) (v := (1 : Int32)) dX12_share_61 rfl ?_
          refine bd_icmp_ne (pc := 62) (tgt := 69) hq dX12_share_62 (by decide) (fun _ hq => ?_) (fun _ hq => ?_)
          ·
            refine st_iconst (pc := 65) (v := (1 : Int32)) dX12_share_65 rfl ?_
            refine st_goto (pc := 66) (tgt := 70) dX12_share_66 (by decide) ?_
            exact T_X12_share_70 hd ih hq
          ·
            exact T_X12_share_69 hd ih hq
        ·
          exact T_X12_share_69 hd ih hq
      ·
        exact T_X12_share_69 hd ih hq
def D_X12_share (N : Nat) (h : mh_H) (l0 : Nat) (l1 : Int32) : Option (Int32 × mh_H) :=
  (D_X12_isColour N h l1).bind fun q1 =>
  if q1.1 = 0 then (kO q1.2 12 l0 <|
  (D_X12_error N q1.2 l0 (1 : Int32)).bind fun q2 =>
  some (q2.1, q2.2))
  else ((gR q1.2 12 l0 0).bind fun v2 =>
  (D_X12_stuffAt N q1.2 l1 (0 : Int32)).bind fun q3 =>
  (aI q3.2 v2 q3.1).bind fun v4 =>
  D_X12_share_26 N N q3.2 l0 l1 v4 (0 : Int32))
set_option maxHeartbeats 4000000 in
set_option maxRecDepth 100000 in
theorem T_X12_share {P : mh_E → Prop} {N d : Nat} (hd : 3 ≤ d) {z : (Int32 × mh_H)} {h : mh_H} {l0 : Nat} {l1 : Int32} (hq : D_X12_share N h l0 l1 = some z) : mh_go P d mX12_share 0 [some (.ref l0), some (.int l1), none, none, none, none, none] [] h (some (.int z.1)) z.2 := by
  unfold D_X12_share at hq
  refine st_iload_n (pc := 0) dX12_share_0 rfl ?_
  obtain ⟨q1, e1, hq⟩ := mh_ob hq
  refine st_invS (pc := 1) (Y := mX12_isColour) (vs := [.int l1]) (rest := []) (st2 := [.int q1.1]) dX12_share_1 okX12_isColour wd_1358 wd_1359 pdX12_isColour rfl rfl rfl rfl (Nat.le_trans (by decide) hd) (Nat.le_of_ble_eq_true rfl) (T_X12_isColour (Nat.le_refl _) e1) rfl ?_
  refine bd_if_ne (pc := 4) (tgt := 13) hq dX12_share_4 (by decide) (fun _ hq => ?_) (fun _ hq => ?_)
  ·
    refine st_aload_n (pc := 7) dX12_share_7 rfl ?_
    refine st_iconst (pc := 8) (v := (1 : Int32)) dX12_share_8 rfl ?_
    obtain ⟨⟨hbq2, hkq2⟩, hq⟩ := mh_oi hq
    obtain ⟨q2, e2, hq⟩ := mh_ob hq
    refine st_invV (pc := 9) (ci := 12) (vs := [.int (1 : Int32)]) (rest := []) (st2 := [.int q2.1]) dX12_share_9 okX12_error (by decide) hkq2 hbq2 wd_1274 wd_1276 wp_37 pdX12_error rfl rfl rfl rfl (Nat.le_trans (by decide) hd) (Nat.le_of_ble_eq_true rfl) (T_X12_error (Nat.le_refl _) e2) rfl ?_
    exact bd_iret (pc := 12) hq dX12_share_12 rfl
  ·
    refine st_aload_n (pc := 13) dX12_share_13 rfl ?_
    refine bd_getr (pc := 14) hq dX12_share_14 fl_12_9_12 rfl (fun v2 hq => ?_)
    refine st_iload_n (pc := 17) dX12_share_17 rfl ?_
    refine st_iconst (pc := 18) (v := (0 : Int32)) dX12_share_18 rfl ?_
    obtain ⟨q3, e3, hq⟩ := mh_ob hq
    refine st_invS (pc := 19) (Y := mX12_stuffAt) (vs := [.int l1, .int (0 : Int32)]) (rest := [.ref v2]) (st2 := [.int q3.1, .ref v2]) dX12_share_19 okX12_stuffAt wd_1374 wd_1375 pdX12_stuffAt rfl rfl rfl rfl (Nat.le_trans (by decide) hd) (Nat.le_of_ble_eq_true rfl) (T_X12_stuffAt (Nat.le_refl _) e3) rfl ?_
    refine bd_iald (pc := 22) hq dX12_share_22 (fun v4 hq => ?_)
    refine st_istore_n (pc := 23) (lv' := [some (.ref l0), some (.int l1), some (.int v4), none, none, none, none]) dX12_share_23 rfl (by decide) rfl ?_
    refine st_iconst (pc := 24) (v := (0 : Int32)) dX12_share_24 rfl ?_
    refine st_istore_n (pc := 25) (lv' := [some (.ref l0), some (.int l1), some (.int v4), some (.int (0 : Int32)), none, none, none]) dX12_share_25 rfl (by decide) rfl ?_
    exact T_X12_share_26 hd N _ _ _ _ _ hq
-- HoleWaterModel.begins(I)V
theorem dX12_begins_0 : decode cX12_begins 0 = .ok (.aload_n 0, 1) := by decide +kernel
theorem dX12_begins_1 : decode cX12_begins 1 = .ok (.getfield 306, 3) := by decide +kernel
theorem dX12_begins_4 : decode cX12_begins 4 = .ok (.bipush 30, 2) := by decide +kernel
theorem dX12_begins_6 : decode cX12_begins 6 = .ok (.if_icmp .ne 4, 3) := by decide +kernel
theorem dX12_begins_9 : decode cX12_begins 9 = .ok (.return_, 1) := by decide +kernel
theorem dX12_begins_10 : decode cX12_begins 10 = .ok (.aload_n 0, 1) := by decide +kernel
theorem dX12_begins_11 : decode cX12_begins 11 = .ok (.getfield 52, 3) := by decide +kernel
theorem dX12_begins_14 : decode cX12_begins 14 = .ok (.aload_n 0, 1) := by decide +kernel
theorem dX12_begins_15 : decode cX12_begins 15 = .ok (.getfield 306, 3) := by decide +kernel
theorem dX12_begins_18 : decode cX12_begins 18 = .ok (.iload_n 1, 1) := by decide +kernel
theorem dX12_begins_19 : decode cX12_begins 19 = .ok (.iastore, 1) := by decide +kernel
theorem dX12_begins_20 : decode cX12_begins 20 = .ok (.aload_n 0, 1) := by decide +kernel
theorem dX12_begins_21 : decode cX12_begins 21 = .ok (.dup, 1) := by decide +kernel
theorem dX12_begins_22 : decode cX12_begins 22 = .ok (.getfield 306, 3) := by decide +kernel
theorem dX12_begins_25 : decode cX12_begins 25 = .ok (.iconst 1, 1) := by decide +kernel
theorem dX12_begins_26 : decode cX12_begins 26 = .ok (.iadd, 1) := by decide +kernel
theorem dX12_begins_27 : decode cX12_begins 27 = .ok (.putfield 306, 3) := by decide +kernel
theorem dX12_begins_30 : decode cX12_begins 30 = .ok (.return_, 1) := by decide +kernel
def D_X12_begins (N : Nat) (h : mh_H) (l0 : Nat) (l1 : Int32) : Option mh_H :=
  (gI h 12 l0 22).bind fun v1 =>
  if v1 = (30 : Int32) then (some h)
  else ((gR h 12 l0 21).bind fun v2 =>
  (gI h 12 l0 22).bind fun v3 =>
  (uI h v2 v3 l1).bind fun h4 =>
  (gI h4 12 l0 22).bind fun v5 =>
  (pI h4 12 l0 22 (v5 + (1 : Int32))).bind fun h6 =>
  some h6)
set_option maxHeartbeats 4000000 in
set_option maxRecDepth 100000 in
theorem T_X12_begins {P : mh_E → Prop} {N d : Nat} (hd : 1 ≤ d) {z : mh_H} {h : mh_H} {l0 : Nat} {l1 : Int32} (hq : D_X12_begins N h l0 l1 = some z) : mh_go P d mX12_begins 0 [some (.ref l0), some (.int l1)] [] h none z := by
  unfold D_X12_begins at hq
  refine st_aload_n (pc := 0) dX12_begins_0 rfl ?_
  refine bd_geti (pc := 1) hq dX12_begins_1 fl_12_306_12 rfl (fun v1 hq => ?_)
  refine st_bipush (pc := 4) (v := (30 : Int32)) dX12_begins_4 (by decide) ?_
  refine bd_icmp_ne (pc := 6) (tgt := 10) hq dX12_begins_6 (by decide) (fun _ hq => ?_) (fun _ hq => ?_)
  ·
    exact bd_vret (pc := 9) hq dX12_begins_9 rfl
  ·
    refine st_aload_n (pc := 10) dX12_begins_10 rfl ?_
    refine bd_getr (pc := 11) hq dX12_begins_11 fl_12_52_12 rfl (fun v2 hq => ?_)
    refine st_aload_n (pc := 14) dX12_begins_14 rfl ?_
    refine bd_geti (pc := 15) hq dX12_begins_15 fl_12_306_12 rfl (fun v3 hq => ?_)
    refine st_iload_n (pc := 18) dX12_begins_18 rfl ?_
    refine bd_iast (pc := 19) hq dX12_begins_19 (fun h4 hq => ?_)
    refine st_aload_n (pc := 20) dX12_begins_20 rfl ?_
    refine st_dup (pc := 21) dX12_begins_21 rfl ?_
    refine bd_geti (pc := 22) hq dX12_begins_22 fl_12_306_12 rfl (fun v5 hq => ?_)
    refine st_iconst (pc := 25) (v := (1 : Int32)) dX12_begins_25 rfl ?_
    refine st_iadd (pc := 26) dX12_begins_26 ?_
    refine bd_puti (pc := 27) hq dX12_begins_27 fl_12_306_12 (Or.inl rfl) rfl (fun h6 hq => ?_)
    exact bd_vret (pc := 30) hq dX12_begins_30 rfl
-- HoleWaterModel.plainRuns(I)I
theorem dX12_plainRuns_0 : decode cX12_plainRuns 0 = .ok (.aload_n 0, 1) := by decide +kernel
theorem dX12_plainRuns_1 : decode cX12_plainRuns 1 = .ok (.bipush 10, 2) := by decide +kernel
theorem dX12_plainRuns_3 : decode cX12_plainRuns 3 = .ok (.invokevirtual 309, 3) := by decide +kernel
theorem dX12_plainRuns_6 : decode cX12_plainRuns 6 = .ok (.iload_n 1, 1) := by decide +kernel
theorem dX12_plainRuns_7 : decode cX12_plainRuns 7 = .ok (.aload_n 0, 1) := by decide +kernel
theorem dX12_plainRuns_8 : decode cX12_plainRuns 8 = .ok (.getfield 312, 3) := by decide +kernel
theorem dX12_plainRuns_11 : decode cX12_plainRuns 11 = .ok (.iadd, 1) := by decide +kernel
theorem dX12_plainRuns_12 : decode cX12_plainRuns 12 = .ok (.ireturn, 1) := by decide +kernel
def D_X12_plainRuns (N : Nat) (h : mh_H) (l0 : Nat) (l1 : Int32) : Option (Int32 × mh_H) :=
  kO h 12 l0 <|
  (D_X12_begins N h l0 (10 : Int32)).bind fun q1 =>
  (gI q1 12 l0 24).bind fun v2 =>
  some (l1 + v2, q1)
set_option maxHeartbeats 4000000 in
set_option maxRecDepth 100000 in
theorem T_X12_plainRuns {P : mh_E → Prop} {N d : Nat} (hd : 2 ≤ d) {z : (Int32 × mh_H)} {h : mh_H} {l0 : Nat} {l1 : Int32} (hq : D_X12_plainRuns N h l0 l1 = some z) : mh_go P d mX12_plainRuns 0 [some (.ref l0), some (.int l1)] [] h (some (.int z.1)) z.2 := by
  unfold D_X12_plainRuns at hq
  refine st_aload_n (pc := 0) dX12_plainRuns_0 rfl ?_
  refine st_bipush (pc := 1) (v := (10 : Int32)) dX12_plainRuns_1 (by decide) ?_
  obtain ⟨⟨hbq1, hkq1⟩, hq⟩ := mh_oi hq
  obtain ⟨q1, e1, hq⟩ := mh_ob hq
  refine st_invV (pc := 3) (ci := 12) (vs := [.int (10 : Int32)]) (rest := []) (st2 := []) dX12_plainRuns_3 okX12_begins (by decide) hkq1 hbq1 wd_1649 wd_1651 wp_85 pdX12_begins rfl rfl rfl rfl (Nat.le_trans (by decide) hd) (Nat.le_of_ble_eq_true rfl) (T_X12_begins (Nat.le_refl _) e1) rfl ?_
  refine st_iload_n (pc := 6) dX12_plainRuns_6 rfl ?_
  refine st_aload_n (pc := 7) dX12_plainRuns_7 rfl ?_
  refine bd_geti (pc := 8) hq dX12_plainRuns_8 fl_12_312_12 rfl (fun v2 hq => ?_)
  refine st_iadd (pc := 11) dX12_plainRuns_11 ?_
  exact bd_iret (pc := 12) hq dX12_plainRuns_12 rfl
-- HoleWaterModel.openRuns(I)I
theorem dX12_openRuns_0 : decode cX12_openRuns 0 = .ok (.aload_n 0, 1) := by decide +kernel
theorem dX12_openRuns_1 : decode cX12_openRuns 1 = .ok (.bipush 20, 2) := by decide +kernel
theorem dX12_openRuns_3 : decode cX12_openRuns 3 = .ok (.invokevirtual 309, 3) := by decide +kernel
theorem dX12_openRuns_6 : decode cX12_openRuns 6 = .ok (.aload_n 0, 1) := by decide +kernel
theorem dX12_openRuns_7 : decode cX12_openRuns 7 = .ok (.iload_n 1, 1) := by decide +kernel
theorem dX12_openRuns_8 : decode cX12_openRuns 8 = .ok (.invokevirtual 315, 3) := by decide +kernel
theorem dX12_openRuns_11 : decode cX12_openRuns 11 = .ok (.iconst 1, 1) := by decide +kernel
theorem dX12_openRuns_12 : decode cX12_openRuns 12 = .ok (.isub, 1) := by decide +kernel
theorem dX12_openRuns_13 : decode cX12_openRuns 13 = .ok (.ireturn, 1) := by decide +kernel
def D_X12_openRuns (N : Nat) (h : mh_H) (l0 : Nat) (l1 : Int32) : Option (Int32 × mh_H) :=
  kO h 12 l0 <|
  (D_X12_begins N h l0 (20 : Int32)).bind fun q1 =>
  kO q1 12 l0 <|
  (D_X12_plainRuns N q1 l0 l1).bind fun q2 =>
  some (q2.1 - (1 : Int32), q2.2)
set_option maxHeartbeats 4000000 in
set_option maxRecDepth 100000 in
theorem T_X12_openRuns {P : mh_E → Prop} {N d : Nat} (hd : 3 ≤ d) {z : (Int32 × mh_H)} {h : mh_H} {l0 : Nat} {l1 : Int32} (hq : D_X12_openRuns N h l0 l1 = some z) : mh_go P d mX12_openRuns 0 [some (.ref l0), some (.int l1)] [] h (some (.int z.1)) z.2 := by
  unfold D_X12_openRuns at hq
  refine st_aload_n (pc := 0) dX12_openRuns_0 rfl ?_
  refine st_bipush (pc := 1) (v := (20 : Int32)) dX12_openRuns_1 (by decide) ?_
  obtain ⟨⟨hbq1, hkq1⟩, hq⟩ := mh_oi hq
  obtain ⟨q1, e1, hq⟩ := mh_ob hq
  refine st_invV (pc := 3) (ci := 12) (vs := [.int (20 : Int32)]) (rest := []) (st2 := []) dX12_openRuns_3 okX12_begins (by decide) hkq1 hbq1 wd_1649 wd_1651 wp_85 pdX12_begins rfl rfl rfl rfl (Nat.le_trans (by decide) hd) (Nat.le_of_ble_eq_true rfl) (T_X12_begins (Nat.le_refl _) e1) rfl ?_
  refine st_aload_n (pc := 6) dX12_openRuns_6 rfl ?_
  refine st_iload_n (pc := 7) dX12_openRuns_7 rfl ?_
  obtain ⟨⟨hbq2, hkq2⟩, hq⟩ := mh_oi hq
  obtain ⟨q2, e2, hq⟩ := mh_ob hq
  refine st_invV (pc := 8) (ci := 12) (vs := [.int l1]) (rest := []) (st2 := [.int q2.1]) dX12_openRuns_8 okX12_plainRuns (by decide) hkq2 hbq2 wd_1657 wd_1659 wp_87 pdX12_plainRuns rfl rfl rfl rfl (Nat.le_trans (by decide) hd) (Nat.le_of_ble_eq_true rfl) (T_X12_plainRuns (Nat.le_refl _) e2) rfl ?_
  refine st_iconst (pc := 11) (v := (1 : Int32)) dX12_openRuns_11 rfl ?_
  refine st_isub (pc := 12) dX12_openRuns_12 ?_
  exact bd_iret (pc := 13) hq dX12_openRuns_13 rfl
