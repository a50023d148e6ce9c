set_option maxRecDepth 100000 in
theorem dL_law_1901 : decode cL_law 1901 = .ok (.iinc 3 6, 3) := by decide +kernel
set_option maxRecDepth 100000 in
theorem dL_law_1904 : decode cL_law 1904 = .ok (.goto (-1886), 3) := by decide +kernel
set_option maxRecDepth 100000 in
theorem dL_law_228 : decode cL_law 228 = .ok (.aload_n 1, 1) := by decide +kernel
set_option maxRecDepth 100000 in
theorem dL_law_229 : decode cL_law 229 = .ok (.aload_n 0, 1) := by decide +kernel
set_option maxRecDepth 100000 in
theorem dL_law_230 : decode cL_law 230 = .ok (.iload_n 3, 1) := by decide +kernel
set_option maxRecDepth 100000 in
theorem dL_law_231 : decode cL_law 231 = .ok (.iconst 1, 1) := by decide +kernel
set_option maxRecDepth 100000 in
theorem dL_law_232 : decode cL_law 232 = .ok (.iadd, 1) := by decide +kernel
set_option maxRecDepth 100000 in
theorem dL_law_233 : decode cL_law 233 = .ok (.iaload, 1) := by decide +kernel
set_option maxRecDepth 100000 in
theorem dL_law_234 : decode cL_law 234 = .ok (.aload_n 0, 1) := by decide +kernel
set_option maxRecDepth 100000 in
theorem dL_law_235 : decode cL_law 235 = .ok (.iload_n 3, 1) := by decide +kernel
set_option maxRecDepth 100000 in
theorem dL_law_236 : decode cL_law 236 = .ok (.iconst 2, 1) := by decide +kernel
set_option maxRecDepth 100000 in
theorem dL_law_237 : decode cL_law 237 = .ok (.iadd, 1) := by decide +kernel
set_option maxRecDepth 100000 in
theorem dL_law_238 : decode cL_law 238 = .ok (.iaload, 1) := by decide +kernel
set_option maxRecDepth 100000 in
theorem dL_law_239 : decode cL_law 239 = .ok (.aload_n 0, 1) := by decide +kernel
set_option maxRecDepth 100000 in
theorem dL_law_240 : decode cL_law 240 = .ok (.iload_n 3, 1) := by decide +kernel
set_option maxRecDepth 100000 in
theorem dL_law_241 : decode cL_law 241 = .ok (.iconst 3, 1) := by decide +kernel
set_option maxRecDepth 100000 in
theorem dL_law_242 : decode cL_law 242 = .ok (.iadd, 1) := by decide +kernel
set_option maxRecDepth 100000 in
theorem dL_law_243 : decode cL_law 243 = .ok (.iaload, 1) := by decide +kernel
set_option maxRecDepth 100000 in
theorem dL_law_244 : decode cL_law 244 = .ok (.invokevirtual 13, 3) := by decide +kernel
set_option maxRecDepth 100000 in
theorem dL_law_247 : decode cL_law 247 = .ok (.aload_n 2, 1) := by decide +kernel
set_option maxRecDepth 100000 in
theorem dL_law_248 : decode cL_law 248 = .ok (.aload_n 0, 1) := by decide +kernel
set_option maxRecDepth 100000 in
theorem dL_law_249 : decode cL_law 249 = .ok (.iload_n 3, 1) := by decide +kernel
set_option maxRecDepth 100000 in
theorem dL_law_250 : decode cL_law 250 = .ok (.iconst 1, 1) := by decide +kernel
set_option maxRecDepth 100000 in
theorem dL_law_251 : decode cL_law 251 = .ok (.iadd, 1) := by decide +kernel
set_option maxRecDepth 100000 in
theorem dL_law_252 : decode cL_law 252 = .ok (.iaload, 1) := by decide +kernel
set_option maxRecDepth 100000 in
theorem dL_law_253 : decode cL_law 253 = .ok (.aload_n 0, 1) := by decide +kernel
set_option maxRecDepth 100000 in
theorem dL_law_254 : decode cL_law 254 = .ok (.iload_n 3, 1) := by decide +kernel
set_option maxRecDepth 100000 in
theorem dL_law_255 : decode cL_law 255 = .ok (.iconst 2, 1) := by decide +kernel
set_option maxRecDepth 100000 in
theorem dL_law_256 : decode cL_law 256 = .ok (.iadd, 1) := by decide +kernel
set_option maxRecDepth 100000 in
theorem dL_law_257 : decode cL_law 257 = .ok (.iaload, 1) := by decide +kernel
set_option maxRecDepth 100000 in
theorem dL_law_258 : decode cL_law 258 = .ok (.aload_n 0, 1) := by decide +kernel
set_option maxRecDepth 100000 in
theorem dL_law_259 : decode cL_law 259 = .ok (.iload_n 3, 1) := by decide +kernel
set_option maxRecDepth 100000 in
theorem dL_law_260 : decode cL_law 260 = .ok (.iconst 3, 1) := by decide +kernel
set_option maxRecDepth 100000 in
theorem dL_law_261 : decode cL_law 261 = .ok (.iadd, 1) := by decide +kernel
set_option maxRecDepth 100000 in
theorem dL_law_262 : decode cL_law 262 = .ok (.iaload, 1) := by decide +kernel
set_option maxRecDepth 100000 in
theorem dL_law_263 : decode cL_law 263 = .ok (.invokevirtual 17, 3) := by decide +kernel
set_option maxRecDepth 100000 in
theorem dL_law_266 : decode cL_law 266 = .ok (.if_icmp .eq 1635, 3) := by decide +kernel
set_option maxRecDepth 100000 in
theorem dL_law_269 : decode cL_law 269 = .ok (.iconst 0, 1) := by decide +kernel
set_option maxRecDepth 100000 in
theorem dL_law_270 : decode cL_law 270 = .ok (.ireturn, 1) := by decide +kernel
set_option maxRecDepth 100000 in
theorem dL_law_271 : decode cL_law 271 = .ok (.aload_n 1, 1) := by decide +kernel
set_option maxRecDepth 100000 in
theorem dL_law_272 : decode cL_law 272 = .ok (.aload_n 0, 1) := by decide +kernel
set_option maxRecDepth 100000 in
theorem dL_law_273 : decode cL_law 273 = .ok (.iload_n 3, 1) := by decide +kernel
set_option maxRecDepth 100000 in
theorem dL_law_274 : decode cL_law 274 = .ok (.iconst 1, 1) := by decide +kernel
set_option maxRecDepth 100000 in
theorem dL_law_275 : decode cL_law 275 = .ok (.iadd, 1) := by decide +kernel
set_option maxRecDepth 100000 in
theorem dL_law_276 : decode cL_law 276 = .ok (.iaload, 1) := by decide +kernel
set_option maxRecDepth 100000 in
theorem dL_law_277 : decode cL_law 277 = .ok (.aload_n 0, 1) := by decide +kernel
set_option maxRecDepth 100000 in
theorem dL_law_278 : decode cL_law 278 = .ok (.iload_n 3, 1) := by decide +kernel
set_option maxRecDepth 100000 in
theorem dL_law_279 : decode cL_law 279 = .ok (.iconst 2, 1) := by decide +kernel
set_option maxRecDepth 100000 in
theorem dL_law_280 : decode cL_law 280 = .ok (.iadd, 1) := by decide +kernel
set_option maxRecDepth 100000 in
theorem dL_law_281 : decode cL_law 281 = .ok (.iaload, 1) := by decide +kernel
set_option maxRecDepth 100000 in
theorem dL_law_282 : decode cL_law 282 = .ok (.invokevirtual 18, 3) := by decide +kernel
set_option maxRecDepth 100000 in
theorem dL_law_285 : decode cL_law 285 = .ok (.aload_n 2, 1) := by decide +kernel
set_option maxRecDepth 100000 in
theorem dL_law_286 : decode cL_law 286 = .ok (.aload_n 0, 1) := by decide +kernel
set_option maxRecDepth 100000 in
theorem dL_law_287 : decode cL_law 287 = .ok (.iload_n 3, 1) := by decide +kernel
set_option maxRecDepth 100000 in
theorem dL_law_288 : decode cL_law 288 = .ok (.iconst 1, 1) := by decide +kernel
set_option maxRecDepth 100000 in
theorem dL_law_289 : decode cL_law 289 = .ok (.iadd, 1) := by decide +kernel
set_option maxRecDepth 100000 in
theorem dL_law_290 : decode cL_law 290 = .ok (.iaload, 1) := by decide +kernel
set_option maxRecDepth 100000 in
theorem dL_law_291 : decode cL_law 291 = .ok (.aload_n 0, 1) := by decide +kernel
set_option maxRecDepth 100000 in
theorem dL_law_292 : decode cL_law 292 = .ok (.iload_n 3, 1) := by decide +kernel
set_option maxRecDepth 100000 in
theorem dL_law_293 : decode cL_law 293 = .ok (.iconst 2, 1) := by decide +kernel
set_option maxRecDepth 100000 in
theorem dL_law_294 : decode cL_law 294 = .ok (.iadd, 1) := by decide +kernel
set_option maxRecDepth 100000 in
theorem dL_law_295 : decode cL_law 295 = .ok (.iaload, 1) := by decide +kernel
set_option maxRecDepth 100000 in
theorem dL_law_296 : decode cL_law 296 = .ok (.invokevirtual 22, 3) := by decide +kernel
set_option maxRecDepth 100000 in
theorem dL_law_299 : decode cL_law 299 = .ok (.if_icmp .eq 1602, 3) := by decide +kernel
set_option maxRecDepth 100000 in
theorem dL_law_302 : decode cL_law 302 = .ok (.iconst 0, 1) := by decide +kernel
set_option maxRecDepth 100000 in
theorem dL_law_303 : decode cL_law 303 = .ok (.ireturn, 1) := by decide +kernel
set_option maxRecDepth 100000 in
theorem dL_law_304 : decode cL_law 304 = .ok (.aload_n 1, 1) := by decide +kernel
set_option maxRecDepth 100000 in
theorem dL_law_305 : decode cL_law 305 = .ok (.aload_n 0, 1) := by decide +kernel
set_option maxRecDepth 100000 in
theorem dL_law_306 : decode cL_law 306 = .ok (.iload_n 3, 1) := by decide +kernel
set_option maxRecDepth 100000 in
theorem dL_law_307 : decode cL_law 307 = .ok (.iconst 1, 1) := by decide +kernel
set_option maxRecDepth 100000 in
theorem dL_law_308 : decode cL_law 308 = .ok (.iadd, 1) := by decide +kernel
set_option maxRecDepth 100000 in
theorem dL_law_309 : decode cL_law 309 = .ok (.iaload, 1) := by decide +kernel
set_option maxRecDepth 100000 in
theorem dL_law_310 : decode cL_law 310 = .ok (.aload_n 0, 1) := by decide +kernel
set_option maxRecDepth 100000 in
theorem dL_law_311 : decode cL_law 311 = .ok (.iload_n 3, 1) := by decide +kernel
set_option maxRecDepth 100000 in
theorem dL_law_312 : decode cL_law 312 = .ok (.iconst 2, 1) := by decide +kernel
set_option maxRecDepth 100000 in
theorem dL_law_313 : decode cL_law 313 = .ok (.iadd, 1) := by decide +kernel
set_option maxRecDepth 100000 in
theorem dL_law_314 : decode cL_law 314 = .ok (.iaload, 1) := by decide +kernel
set_option maxRecDepth 100000 in
theorem dL_law_315 : decode cL_law 315 = .ok (.aload_n 0, 1) := by decide +kernel
set_option maxRecDepth 100000 in
theorem dL_law_316 : decode cL_law 316 = .ok (.iload_n 3, 1) := by decide +kernel
set_option maxRecDepth 100000 in
theorem dL_law_317 : decode cL_law 317 = .ok (.iconst 3, 1) := by decide +kernel
set_option maxRecDepth 100000 in
theorem dL_law_318 : decode cL_law 318 = .ok (.iadd, 1) := by decide +kernel
set_option maxRecDepth 100000 in
theorem dL_law_319 : decode cL_law 319 = .ok (.iaload, 1) := by decide +kernel
set_option maxRecDepth 100000 in
theorem dL_law_320 : decode cL_law 320 = .ok (.aload_n 0, 1) := by decide +kernel
set_option maxRecDepth 100000 in
theorem dL_law_321 : decode cL_law 321 = .ok (.iload_n 3, 1) := by decide +kernel
set_option maxRecDepth 100000 in
theorem dL_law_322 : decode cL_law 322 = .ok (.iconst 4, 1) := by decide +kernel
set_option maxRecDepth 100000 in
theorem dL_law_323 : decode cL_law 323 = .ok (.iadd, 1) := by decide +kernel
set_option maxRecDepth 100000 in
theorem dL_law_324 : decode cL_law 324 = .ok (.iaload, 1) := by decide +kernel
set_option maxRecDepth 100000 in
theorem dL_law_325 : decode cL_law 325 = .ok (.invokevirtual 23, 3) := by decide +kernel
set_option maxRecDepth 100000 in
theorem dL_law_328 : decode cL_law 328 = .ok (.aload_n 2, 1) := by decide +kernel
set_option maxRecDepth 100000 in
theorem dL_law_329 : decode cL_law 329 = .ok (.aload_n 0, 1) := by decide +kernel
set_option maxRecDepth 100000 in
theorem dL_law_330 : decode cL_law 330 = .ok (.iload_n 3, 1) := by decide +kernel
set_option maxRecDepth 100000 in
theorem dL_law_331 : decode cL_law 331 = .ok (.iconst 1, 1) := by decide +kernel
set_option maxRecDepth 100000 in
theorem dL_law_332 : decode cL_law 332 = .ok (.iadd, 1) := by decide +kernel
set_option maxRecDepth 100000 in
theorem dL_law_333 : decode cL_law 333 = .ok (.iaload, 1) := by decide +kernel
set_option maxRecDepth 100000 in
theorem dL_law_334 : decode cL_law 334 = .ok (.aload_n 0, 1) := by decide +kernel
set_option maxRecDepth 100000 in
theorem dL_law_335 : decode cL_law 335 = .ok (.iload_n 3, 1) := by decide +kernel
set_option maxRecDepth 100000 in
theorem dL_law_336 : decode cL_law 336 = .ok (.iconst 2, 1) := by decide +kernel
set_option maxRecDepth 100000 in
theorem dL_law_337 : decode cL_law 337 = .ok (.iadd, 1) := by decide +kernel
set_option maxRecDepth 100000 in
theorem dL_law_338 : decode cL_law 338 = .ok (.iaload, 1) := by decide +kernel
set_option maxRecDepth 100000 in
theorem dL_law_339 : decode cL_law 339 = .ok (.aload_n 0, 1) := by decide +kernel
set_option maxRecDepth 100000 in
theorem dL_law_340 : decode cL_law 340 = .ok (.iload_n 3, 1) := by decide +kernel
set_option maxRecDepth 100000 in
theorem dL_law_341 : decode cL_law 341 = .ok (.iconst 3, 1) := by decide +kernel
set_option maxRecDepth 100000 in
theorem dL_law_342 : decode cL_law 342 = .ok (.iadd, 1) := by decide +kernel
set_option maxRecDepth 100000 in
theorem dL_law_343 : decode cL_law 343 = .ok (.iaload, 1) := by decide +kernel
set_option maxRecDepth 100000 in
theorem dL_law_344 : decode cL_law 344 = .ok (.aload_n 0, 1) := by decide +kernel
set_option maxRecDepth 100000 in
theorem dL_law_345 : decode cL_law 345 = .ok (.iload_n 3, 1) := by decide +kernel
set_option maxRecDepth 100000 in
theorem dL_law_346 : decode cL_law 346 = .ok (.iconst 4, 1) := by decide +kernel
set_option maxRecDepth 100000 in
theorem dL_law_347 : decode cL_law 347 = .ok (.iadd, 1) := by decide +kernel
set_option maxRecDepth 100000 in
theorem dL_law_348 : decode cL_law 348 = .ok (.iaload, 1) := by decide +kernel
set_option maxRecDepth 100000 in
theorem dL_law_349 : decode cL_law 349 = .ok (.invokevirtual 27, 3) := by decide +kernel
set_option maxRecDepth 100000 in
theorem dL_law_352 : decode cL_law 352 = .ok (.if_icmp .eq 1549, 3) := by decide +kernel
set_option maxRecDepth 100000 in
theorem dL_law_355 : decode cL_law 355 = .ok (.iconst 0, 1) := by decide +kernel
set_option maxRecDepth 100000 in
theorem dL_law_356 : decode cL_law 356 = .ok (.ireturn, 1) := by decide +kernel
set_option maxRecDepth 100000 in
theorem dL_law_357 : decode cL_law 357 = .ok (.aload_n 1, 1) := by decide +kernel
set_option maxRecDepth 100000 in
theorem dL_law_358 : decode cL_law 358 = .ok (.aload_n 0, 1) := by decide +kernel
set_option maxRecDepth 100000 in
theorem dL_law_359 : decode cL_law 359 = .ok (.iload_n 3, 1) := by decide +kernel
set_option maxRecDepth 100000 in
theorem dL_law_360 : decode cL_law 360 = .ok (.iconst 1, 1) := by decide +kernel
set_option maxRecDepth 100000 in
theorem dL_law_361 : decode cL_law 361 = .ok (.iadd, 1) := by decide +kernel
set_option maxRecDepth 100000 in
theorem dL_law_362 : decode cL_law 362 = .ok (.iaload, 1) := by decide +kernel
set_option maxRecDepth 100000 in
theorem dL_law_363 : decode cL_law 363 = .ok (.aload_n 0, 1) := by decide +kernel
set_option maxRecDepth 100000 in
theorem dL_law_364 : decode cL_law 364 = .ok (.iload_n 3, 1) := by decide +kernel
set_option maxRecDepth 100000 in
theorem dL_law_365 : decode cL_law 365 = .ok (.iconst 2, 1) := by decide +kernel
set_option maxRecDepth 100000 in
theorem dL_law_366 : decode cL_law 366 = .ok (.iadd, 1) := by decide +kernel
set_option maxRecDepth 100000 in
theorem dL_law_367 : decode cL_law 367 = .ok (.iaload, 1) := by decide +kernel
set_option maxRecDepth 100000 in
theorem dL_law_368 : decode cL_law 368 = .ok (.invokevirtual 28, 3) := by decide +kernel
set_option maxRecDepth 100000 in
theorem dL_law_371 : decode cL_law 371 = .ok (.aload_n 2, 1) := by decide +kernel
set_option maxRecDepth 100000 in
theorem dL_law_372 : decode cL_law 372 = .ok (.aload_n 0, 1) := by decide +kernel
set_option maxRecDepth 100000 in
theorem dL_law_373 : decode cL_law 373 = .ok (.iload_n 3, 1) := by decide +kernel
set_option maxRecDepth 100000 in
theorem dL_law_374 : decode cL_law 374 = .ok (.iconst 1, 1) := by decide +kernel
set_option maxRecDepth 100000 in
theorem dL_law_375 : decode cL_law 375 = .ok (.iadd, 1) := by decide +kernel
set_option maxRecDepth 100000 in
theorem dL_law_376 : decode cL_law 376 = .ok (.iaload, 1) := by decide +kernel
set_option maxRecDepth 100000 in
theorem dL_law_377 : decode cL_law 377 = .ok (.aload_n 0, 1) := by decide +kernel
set_option maxRecDepth 100000 in
theorem dL_law_378 : decode cL_law 378 = .ok (.iload_n 3, 1) := by decide +kernel
set_option maxRecDepth 100000 in
theorem dL_law_379 : decode cL_law 379 = .ok (.iconst 2, 1) := by decide +kernel
set_option maxRecDepth 100000 in
theorem dL_law_380 : decode cL_law 380 = .ok (.iadd, 1) := by decide +kernel
set_option maxRecDepth 100000 in
theorem dL_law_381 : decode cL_law 381 = .ok (.iaload, 1) := by decide +kernel
set_option maxRecDepth 100000 in
theorem dL_law_382 : decode cL_law 382 = .ok (.invokevirtual 31, 3) := by decide +kernel
set_option maxRecDepth 100000 in
theorem dL_law_385 : decode cL_law 385 = .ok (.if_icmp .eq 1516, 3) := by decide +kernel
set_option maxRecDepth 100000 in
theorem dL_law_388 : decode cL_law 388 = .ok (.iconst 0, 1) := by decide +kernel
set_option maxRecDepth 100000 in
theorem dL_law_389 : decode cL_law 389 = .ok (.ireturn, 1) := by decide +kernel
set_option maxRecDepth 100000 in
theorem dL_law_390 : decode cL_law 390 = .ok (.aload_n 1, 1) := by decide +kernel
set_option maxRecDepth 100000 in
theorem dL_law_391 : decode cL_law 391 = .ok (.aload_n 0, 1) := by decide +kernel
set_option maxRecDepth 100000 in
theorem dL_law_392 : decode cL_law 392 = .ok (.iload_n 3, 1) := by decide +kernel
set_option maxRecDepth 100000 in
theorem dL_law_393 : decode cL_law 393 = .ok (.iconst 1, 1) := by decide +kernel
set_option maxRecDepth 100000 in
theorem dL_law_394 : decode cL_law 394 = .ok (.iadd, 1) := by decide +kernel
set_option maxRecDepth 100000 in
theorem dL_law_395 : decode cL_law 395 = .ok (.iaload, 1) := by decide +kernel
set_option maxRecDepth 100000 in
theorem dL_law_396 : decode cL_law 396 = .ok (.aload_n 0, 1) := by decide +kernel
set_option maxRecDepth 100000 in
theorem dL_law_397 : decode cL_law 397 = .ok (.iload_n 3, 1) := by decide +kernel
set_option maxRecDepth 100000 in
theorem dL_law_398 : decode cL_law 398 = .ok (.iconst 2, 1) := by decide +kernel
set_option maxRecDepth 100000 in
theorem dL_law_399 : decode cL_law 399 = .ok (.iadd, 1) := by decide +kernel
set_option maxRecDepth 100000 in
theorem dL_law_400 : decode cL_law 400 = .ok (.iaload, 1) := by decide +kernel
set_option maxRecDepth 100000 in
theorem dL_law_401 : decode cL_law 401 = .ok (.invokevirtual 32, 3) := by decide +kernel
set_option maxRecDepth 100000 in
theorem dL_law_404 : decode cL_law 404 = .ok (.aload_n 2, 1) := by decide +kernel
set_option maxRecDepth 100000 in
theorem dL_law_405 : decode cL_law 405 = .ok (.aload_n 0, 1) := by decide +kernel
set_option maxRecDepth 100000 in
theorem dL_law_406 : decode cL_law 406 = .ok (.iload_n 3, 1) := by decide +kernel
set_option maxRecDepth 100000 in
theorem dL_law_407 : decode cL_law 407 = .ok (.iconst 1, 1) := by decide +kernel
set_option maxRecDepth 100000 in
theorem dL_law_408 : decode cL_law 408 = .ok (.iadd, 1) := by decide +kernel
set_option maxRecDepth 100000 in
theorem dL_law_409 : decode cL_law 409 = .ok (.iaload, 1) := by decide +kernel
set_option maxRecDepth 100000 in
theorem dL_law_410 : decode cL_law 410 = .ok (.aload_n 0, 1) := by decide +kernel
set_option maxRecDepth 100000 in
theorem dL_law_411 : decode cL_law 411 = .ok (.iload_n 3, 1) := by decide +kernel
set_option maxRecDepth 100000 in
theorem dL_law_412 : decode cL_law 412 = .ok (.iconst 2, 1) := by decide +kernel
set_option maxRecDepth 100000 in
theorem dL_law_413 : decode cL_law 413 = .ok (.iadd, 1) := by decide +kernel
set_option maxRecDepth 100000 in
theorem dL_law_414 : decode cL_law 414 = .ok (.iaload, 1) := by decide +kernel
set_option maxRecDepth 100000 in
theorem dL_law_415 : decode cL_law 415 = .ok (.invokevirtual 35, 3) := by decide +kernel
set_option maxRecDepth 100000 in
theorem dL_law_418 : decode cL_law 418 = .ok (.if_icmp .eq 1483, 3) := by decide +kernel
set_option maxRecDepth 100000 in
theorem dL_law_421 : decode cL_law 421 = .ok (.iconst 0, 1) := by decide +kernel
set_option maxRecDepth 100000 in
theorem dL_law_422 : decode cL_law 422 = .ok (.ireturn, 1) := by decide +kernel
set_option maxRecDepth 100000 in
theorem dL_law_464 : decode cL_law 464 = .ok (.invokevirtual 40, 3) := by decide +kernel
set_option maxRecDepth 100000 in
theorem dL_law_467 : decode cL_law 467 = .ok (.if_icmp .eq 1434, 3) := by decide +kernel
set_option maxRecDepth 100000 in
theorem dL_law_470 : decode cL_law 470 = .ok (.iconst 0, 1) := by decide +kernel
set_option maxRecDepth 100000 in
theorem dL_law_471 : decode cL_law 471 = .ok (.ireturn, 1) := by decide +kernel
set_option maxRecDepth 100000 in
theorem dL_law_442 : decode cL_law 442 = .ok (.invokevirtual 36, 3) := by decide +kernel
set_option maxRecDepth 100000 in
theorem dL_law_445 : decode cL_law 445 = .ok (.aload_n 2, 1) := by decide +kernel
set_option maxRecDepth 100000 in
theorem dL_law_446 : decode cL_law 446 = .ok (.aload_n 0, 1) := by decide +kernel
set_option maxRecDepth 100000 in
theorem dL_law_447 : decode cL_law 447 = .ok (.iload_n 3, 1) := by decide +kernel
set_option maxRecDepth 100000 in
theorem dL_law_448 : decode cL_law 448 = .ok (.iconst 1, 1) := by decide +kernel
set_option maxRecDepth 100000 in
theorem dL_law_449 : decode cL_law 449 = .ok (.iadd, 1) := by decide +kernel
set_option maxRecDepth 100000 in
theorem dL_law_450 : decode cL_law 450 = .ok (.iaload, 1) := by decide +kernel
set_option maxRecDepth 100000 in
theorem dL_law_451 : decode cL_law 451 = .ok (.aload_n 0, 1) := by decide +kernel
set_option maxRecDepth 100000 in
theorem dL_law_452 : decode cL_law 452 = .ok (.iload_n 3, 1) := by decide +kernel
set_option maxRecDepth 100000 in
theorem dL_law_453 : decode cL_law 453 = .ok (.iconst 2, 1) := by decide +kernel
set_option maxRecDepth 100000 in
theorem dL_law_454 : decode cL_law 454 = .ok (.iadd, 1) := by decide +kernel
set_option maxRecDepth 100000 in
theorem dL_law_455 : decode cL_law 455 = .ok (.iaload, 1) := by decide +kernel
set_option maxRecDepth 100000 in
theorem dL_law_456 : decode cL_law 456 = .ok (.ifCond .eq 7, 3) := by decide +kernel
set_option maxRecDepth 100000 in
theorem dL_law_463 : decode cL_law 463 = .ok (.iconst 0, 1) := by decide +kernel
set_option maxRecDepth 100000 in
theorem dL_law_459 : decode cL_law 459 = .ok (.iconst 1, 1) := by decide +kernel
set_option maxRecDepth 100000 in
theorem dL_law_460 : decode cL_law 460 = .ok (.goto 4, 3) := by decide +kernel
set_option maxRecDepth 100000 in
theorem dL_law_423 : decode cL_law 423 = .ok (.aload_n 1, 1) := by decide +kernel
set_option maxRecDepth 100000 in
theorem dL_law_424 : decode cL_law 424 = .ok (.aload_n 0, 1) := by decide +kernel
set_option maxRecDepth 100000 in
theorem dL_law_425 : decode cL_law 425 = .ok (.iload_n 3, 1) := by decide +kernel
set_option maxRecDepth 100000 in
theorem dL_law_426 : decode cL_law 426 = .ok (.iconst 1, 1) := by decide +kernel
set_option maxRecDepth 100000 in
theorem dL_law_427 : decode cL_law 427 = .ok (.iadd, 1) := by decide +kernel
set_option maxRecDepth 100000 in
theorem dL_law_428 : decode cL_law 428 = .ok (.iaload, 1) := by decide +kernel
set_option maxRecDepth 100000 in
theorem dL_law_429 : decode cL_law 429 = .ok (.aload_n 0, 1) := by decide +kernel
set_option maxRecDepth 100000 in
theorem dL_law_430 : decode cL_law 430 = .ok (.iload_n 3, 1) := by decide +kernel
set_option maxRecDepth 100000 in
theorem dL_law_431 : decode cL_law 431 = .ok (.iconst 2, 1) := by decide +kernel
set_option maxRecDepth 100000 in
theorem dL_law_432 : decode cL_law 432 = .ok (.iadd, 1) := by decide +kernel
set_option maxRecDepth 100000 in
theorem dL_law_433 : decode cL_law 433 = .ok (.iaload, 1) := by decide +kernel
set_option maxRecDepth 100000 in
theorem dL_law_434 : decode cL_law 434 = .ok (.ifCond .eq 7, 3) := by decide +kernel
set_option maxRecDepth 100000 in
theorem dL_law_441 : decode cL_law 441 = .ok (.iconst 0, 1) := by decide +kernel
set_option maxRecDepth 100000 in
theorem dL_law_437 : decode cL_law 437 = .ok (.iconst 1, 1) := by decide +kernel
set_option maxRecDepth 100000 in
theorem dL_law_438 : decode cL_law 438 = .ok (.goto 4, 3) := by decide +kernel
set_option maxRecDepth 100000 in
theorem dL_law_472 : decode cL_law 472 = .ok (.aload_n 1, 1) := by decide +kernel
set_option maxRecDepth 100000 in
theorem dL_law_473 : decode cL_law 473 = .ok (.aload_n 0, 1) := by decide +kernel
set_option maxRecDepth 100000 in
theorem dL_law_474 : decode cL_law 474 = .ok (.iload_n 3, 1) := by decide +kernel
set_option maxRecDepth 100000 in
theorem dL_law_475 : decode cL_law 475 = .ok (.iconst 1, 1) := by decide +kernel
set_option maxRecDepth 100000 in
theorem dL_law_476 : decode cL_law 476 = .ok (.iadd, 1) := by decide +kernel
set_option maxRecDepth 100000 in
theorem dL_law_477 : decode cL_law 477 = .ok (.iaload, 1) := by decide +kernel
set_option maxRecDepth 100000 in
theorem dL_law_478 : decode cL_law 478 = .ok (.aload_n 0, 1) := by decide +kernel
set_option maxRecDepth 100000 in
theorem dL_law_479 : decode cL_law 479 = .ok (.iload_n 3, 1) := by decide +kernel
set_option maxRecDepth 100000 in
theorem dL_law_480 : decode cL_law 480 = .ok (.iconst 2, 1) := by decide +kernel
set_option maxRecDepth 100000 in
theorem dL_law_481 : decode cL_law 481 = .ok (.iadd, 1) := by decide +kernel
set_option maxRecDepth 100000 in
theorem dL_law_482 : decode cL_law 482 = .ok (.iaload, 1) := by decide +kernel
set_option maxRecDepth 100000 in
theorem dL_law_483 : decode cL_law 483 = .ok (.invokevirtual 41, 3) := by decide +kernel
set_option maxRecDepth 100000 in
theorem dL_law_486 : decode cL_law 486 = .ok (.aload_n 2, 1) := by decide +kernel
set_option maxRecDepth 100000 in
theorem dL_law_487 : decode cL_law 487 = .ok (.aload_n 0, 1) := by decide +kernel
set_option maxRecDepth 100000 in
theorem dL_law_488 : decode cL_law 488 = .ok (.iload_n 3, 1) := by decide +kernel
set_option maxRecDepth 100000 in
theorem dL_law_489 : decode cL_law 489 = .ok (.iconst 1, 1) := by decide +kernel
set_option maxRecDepth 100000 in
theorem dL_law_490 : decode cL_law 490 = .ok (.iadd, 1) := by decide +kernel
set_option maxRecDepth 100000 in
theorem dL_law_491 : decode cL_law 491 = .ok (.iaload, 1) := by decide +kernel
set_option maxRecDepth 100000 in
theorem dL_law_492 : decode cL_law 492 = .ok (.aload_n 0, 1) := by decide +kernel
set_option maxRecDepth 100000 in
theorem dL_law_493 : decode cL_law 493 = .ok (.iload_n 3, 1) := by decide +kernel
set_option maxRecDepth 100000 in
theorem dL_law_494 : decode cL_law 494 = .ok (.iconst 2, 1) := by decide +kernel
set_option maxRecDepth 100000 in
theorem dL_law_495 : decode cL_law 495 = .ok (.iadd, 1) := by decide +kernel
set_option maxRecDepth 100000 in
theorem dL_law_496 : decode cL_law 496 = .ok (.iaload, 1) := by decide +kernel
set_option maxRecDepth 100000 in
theorem dL_law_497 : decode cL_law 497 = .ok (.invokevirtual 44, 3) := by decide +kernel
set_option maxRecDepth 100000 in
theorem dL_law_500 : decode cL_law 500 = .ok (.if_icmp .eq 1401, 3) := by decide +kernel
set_option maxRecDepth 100000 in
theorem dL_law_503 : decode cL_law 503 = .ok (.iconst 0, 1) := by decide +kernel
set_option maxRecDepth 100000 in
theorem dL_law_504 : decode cL_law 504 = .ok (.ireturn, 1) := by decide +kernel
set_option maxRecDepth 100000 in
theorem dL_law_536 : decode cL_law 536 = .ok (.invokevirtual 49, 3) := by decide +kernel
set_option maxRecDepth 100000 in
theorem dL_law_539 : decode cL_law 539 = .ok (.if_icmp .eq 1362, 3) := by decide +kernel
set_option maxRecDepth 100000 in
theorem dL_law_542 : decode cL_law 542 = .ok (.iconst 0, 1) := by decide +kernel
set_option maxRecDepth 100000 in
theorem dL_law_543 : decode cL_law 543 = .ok (.ireturn, 1) := by decide +kernel
set_option maxRecDepth 100000 in
theorem dL_law_519 : decode cL_law 519 = .ok (.invokevirtual 45, 3) := by decide +kernel
set_option maxRecDepth 100000 in
theorem dL_law_522 : decode cL_law 522 = .ok (.aload_n 2, 1) := by decide +kernel
set_option maxRecDepth 100000 in
theorem dL_law_523 : decode cL_law 523 = .ok (.aload_n 0, 1) := by decide +kernel
set_option maxRecDepth 100000 in
theorem dL_law_524 : decode cL_law 524 = .ok (.iload_n 3, 1) := by decide +kernel
set_option maxRecDepth 100000 in
theorem dL_law_525 : decode cL_law 525 = .ok (.iconst 1, 1) := by decide +kernel
set_option maxRecDepth 100000 in
theorem dL_law_526 : decode cL_law 526 = .ok (.iadd, 1) := by decide +kernel
set_option maxRecDepth 100000 in
theorem dL_law_527 : decode cL_law 527 = .ok (.iaload, 1) := by decide +kernel
set_option maxRecDepth 100000 in
theorem dL_law_528 : decode cL_law 528 = .ok (.ifCond .eq 7, 3) := by decide +kernel
set_option maxRecDepth 100000 in
theorem dL_law_535 : decode cL_law 535 = .ok (.iconst 0, 1) := by decide +kernel
set_option maxRecDepth 100000 in
theorem dL_law_531 : decode cL_law 531 = .ok (.iconst 1, 1) := by decide +kernel
set_option maxRecDepth 100000 in
theorem dL_law_532 : decode cL_law 532 = .ok (.goto 4, 3) := by decide +kernel
set_option maxRecDepth 100000 in
theorem dL_law_505 : decode cL_law 505 = .ok (.aload_n 1, 1) := by decide +kernel
set_option maxRecDepth 100000 in
theorem dL_law_506 : decode cL_law 506 = .ok (.aload_n 0, 1) := by decide +kernel
set_option maxRecDepth 100000 in
theorem dL_law_507 : decode cL_law 507 = .ok (.iload_n 3, 1) := by decide +kernel
set_option maxRecDepth 100000 in
theorem dL_law_508 : decode cL_law 508 = .ok (.iconst 1, 1) := by decide +kernel
set_option maxRecDepth 100000 in
theorem dL_law_509 : decode cL_law 509 = .ok (.iadd, 1) := by decide +kernel
set_option maxRecDepth 100000 in
theorem dL_law_510 : decode cL_law 510 = .ok (.iaload, 1) := by decide +kernel
set_option maxRecDepth 100000 in
theorem dL_law_511 : decode cL_law 511 = .ok (.ifCond .eq 7, 3) := by decide +kernel
set_option maxRecDepth 100000 in
theorem dL_law_518 : decode cL_law 518 = .ok (.iconst 0, 1) := by decide +kernel
set_option maxRecDepth 100000 in
theorem dL_law_514 : decode cL_law 514 = .ok (.iconst 1, 1) := by decide +kernel
set_option maxRecDepth 100000 in
theorem dL_law_515 : decode cL_law 515 = .ok (.goto 4, 3) := by decide +kernel
set_option maxRecDepth 100000 in
theorem dL_law_544 : decode cL_law 544 = .ok (.aload_n 1, 1) := by decide +kernel
set_option maxRecDepth 100000 in
theorem dL_law_545 : decode cL_law 545 = .ok (.aload_n 0, 1) := by decide +kernel
set_option maxRecDepth 100000 in
theorem dL_law_546 : decode cL_law 546 = .ok (.iload_n 3, 1) := by decide +kernel
set_option maxRecDepth 100000 in
theorem dL_law_547 : decode cL_law 547 = .ok (.iconst 1, 1) := by decide +kernel
set_option maxRecDepth 100000 in
theorem dL_law_548 : decode cL_law 548 = .ok (.iadd, 1) := by decide +kernel
set_option maxRecDepth 100000 in
theorem dL_law_549 : decode cL_law 549 = .ok (.iaload, 1) := by decide +kernel
set_option maxRecDepth 100000 in
theorem dL_law_550 : decode cL_law 550 = .ok (.aload_n 0, 1) := by decide +kernel
set_option maxRecDepth 100000 in
theorem dL_law_551 : decode cL_law 551 = .ok (.iload_n 3, 1) := by decide +kernel
set_option maxRecDepth 100000 in
theorem dL_law_552 : decode cL_law 552 = .ok (.iconst 2, 1) := by decide +kernel
set_option maxRecDepth 100000 in
theorem dL_law_553 : decode cL_law 553 = .ok (.iadd, 1) := by decide +kernel
set_option maxRecDepth 100000 in
theorem dL_law_554 : decode cL_law 554 = .ok (.iaload, 1) := by decide +kernel
set_option maxRecDepth 100000 in
theorem dL_law_555 : decode cL_law 555 = .ok (.invokevirtual 50, 3) := by decide +kernel
set_option maxRecDepth 100000 in
theorem dL_law_558 : decode cL_law 558 = .ok (.aload_n 2, 1) := by decide +kernel
set_option maxRecDepth 100000 in
theorem dL_law_559 : decode cL_law 559 = .ok (.aload_n 0, 1) := by decide +kernel
set_option maxRecDepth 100000 in
theorem dL_law_560 : decode cL_law 560 = .ok (.iload_n 3, 1) := by decide +kernel
set_option maxRecDepth 100000 in
theorem dL_law_561 : decode cL_law 561 = .ok (.iconst 1, 1) := by decide +kernel
set_option maxRecDepth 100000 in
theorem dL_law_562 : decode cL_law 562 = .ok (.iadd, 1) := by decide +kernel
set_option maxRecDepth 100000 in
theorem dL_law_563 : decode cL_law 563 = .ok (.iaload, 1) := by decide +kernel
set_option maxRecDepth 100000 in
theorem dL_law_564 : decode cL_law 564 = .ok (.aload_n 0, 1) := by decide +kernel
set_option maxRecDepth 100000 in
theorem dL_law_565 : decode cL_law 565 = .ok (.iload_n 3, 1) := by decide +kernel
set_option maxRecDepth 100000 in
theorem dL_law_566 : decode cL_law 566 = .ok (.iconst 2, 1) := by decide +kernel
set_option maxRecDepth 100000 in
theorem dL_law_567 : decode cL_law 567 = .ok (.iadd, 1) := by decide +kernel
set_option maxRecDepth 100000 in
theorem dL_law_568 : decode cL_law 568 = .ok (.iaload, 1) := by decide +kernel
set_option maxRecDepth 100000 in
theorem dL_law_569 : decode cL_law 569 = .ok (.invokevirtual 53, 3) := by decide +kernel
set_option maxRecDepth 100000 in
theorem dL_law_572 : decode cL_law 572 = .ok (.if_icmp .eq 1329, 3) := by decide +kernel
set_option maxRecDepth 100000 in
theorem dL_law_575 : decode cL_law 575 = .ok (.iconst 0, 1) := by decide +kernel
set_option maxRecDepth 100000 in
theorem dL_law_576 : decode cL_law 576 = .ok (.ireturn, 1) := by decide +kernel
set_option maxRecDepth 100000 in
theorem dL_law_577 : decode cL_law 577 = .ok (.aload_n 1, 1) := by decide +kernel
set_option maxRecDepth 100000 in
theorem dL_law_578 : decode cL_law 578 = .ok (.aload_n 0, 1) := by decide +kernel
set_option maxRecDepth 100000 in
theorem dL_law_579 : decode cL_law 579 = .ok (.iload_n 3, 1) := by decide +kernel
set_option maxRecDepth 100000 in
theorem dL_law_580 : decode cL_law 580 = .ok (.iconst 1, 1) := by decide +kernel
set_option maxRecDepth 100000 in
theorem dL_law_581 : decode cL_law 581 = .ok (.iadd, 1) := by decide +kernel
set_option maxRecDepth 100000 in
theorem dL_law_582 : decode cL_law 582 = .ok (.iaload, 1) := by decide +kernel
set_option maxRecDepth 100000 in
theorem dL_law_583 : decode cL_law 583 = .ok (.invokevirtual 54, 3) := by decide +kernel
set_option maxRecDepth 100000 in
theorem dL_law_586 : decode cL_law 586 = .ok (.aload_n 2, 1) := by decide +kernel
set_option maxRecDepth 100000 in
theorem dL_law_587 : decode cL_law 587 = .ok (.aload_n 0, 1) := by decide +kernel
set_option maxRecDepth 100000 in
theorem dL_law_588 : decode cL_law 588 = .ok (.iload_n 3, 1) := by decide +kernel
set_option maxRecDepth 100000 in
theorem dL_law_589 : decode cL_law 589 = .ok (.iconst 1, 1) := by decide +kernel
set_option maxRecDepth 100000 in
theorem dL_law_590 : decode cL_law 590 = .ok (.iadd, 1) := by decide +kernel
set_option maxRecDepth 100000 in
theorem dL_law_591 : decode cL_law 591 = .ok (.iaload, 1) := by decide +kernel
set_option maxRecDepth 100000 in
theorem dL_law_592 : decode cL_law 592 = .ok (.invokevirtual 58, 3) := by decide +kernel
set_option maxRecDepth 100000 in
theorem dL_law_595 : decode cL_law 595 = .ok (.if_icmp .eq 1306, 3) := by decide +kernel
set_option maxRecDepth 100000 in
theorem dL_law_598 : decode cL_law 598 = .ok (.iconst 0, 1) := by decide +kernel
set_option maxRecDepth 100000 in
theorem dL_law_599 : decode cL_law 599 = .ok (.ireturn, 1) := by decide +kernel
set_option maxRecDepth 100000 in
theorem dL_law_600 : decode cL_law 600 = .ok (.aload_n 1, 1) := by decide +kernel
set_option maxRecDepth 100000 in
theorem dL_law_601 : decode cL_law 601 = .ok (.aload_n 0, 1) := by decide +kernel
set_option maxRecDepth 100000 in
theorem dL_law_602 : decode cL_law 602 = .ok (.iload_n 3, 1) := by decide +kernel
set_option maxRecDepth 100000 in
theorem dL_law_603 : decode cL_law 603 = .ok (.iconst 1, 1) := by decide +kernel
set_option maxRecDepth 100000 in
theorem dL_law_604 : decode cL_law 604 = .ok (.iadd, 1) := by decide +kernel
set_option maxRecDepth 100000 in
theorem dL_law_605 : decode cL_law 605 = .ok (.iaload, 1) := by decide +kernel
set_option maxRecDepth 100000 in
theorem dL_law_606 : decode cL_law 606 = .ok (.aload_n 0, 1) := by decide +kernel
set_option maxRecDepth 100000 in
theorem dL_law_607 : decode cL_law 607 = .ok (.iload_n 3, 1) := by decide +kernel
set_option maxRecDepth 100000 in
theorem dL_law_608 : decode cL_law 608 = .ok (.iconst 2, 1) := by decide +kernel
set_option maxRecDepth 100000 in
theorem dL_law_609 : decode cL_law 609 = .ok (.iadd, 1) := by decide +kernel
set_option maxRecDepth 100000 in
theorem dL_law_610 : decode cL_law 610 = .ok (.iaload, 1) := by decide +kernel
set_option maxRecDepth 100000 in
theorem dL_law_611 : decode cL_law 611 = .ok (.aload_n 0, 1) := by decide +kernel
set_option maxRecDepth 100000 in
theorem dL_law_612 : decode cL_law 612 = .ok (.iload_n 3, 1) := by decide +kernel
set_option maxRecDepth 100000 in
theorem dL_law_613 : decode cL_law 613 = .ok (.iconst 3, 1) := by decide +kernel
set_option maxRecDepth 100000 in
theorem dL_law_614 : decode cL_law 614 = .ok (.iadd, 1) := by decide +kernel
set_option maxRecDepth 100000 in
theorem dL_law_615 : decode cL_law 615 = .ok (.iaload, 1) := by decide +kernel
set_option maxRecDepth 100000 in
theorem dL_law_616 : decode cL_law 616 = .ok (.invokevirtual 59, 3) := by decide +kernel
set_option maxRecDepth 100000 in
theorem dL_law_619 : decode cL_law 619 = .ok (.aload_n 2, 1) := by decide +kernel
set_option maxRecDepth 100000 in
theorem dL_law_620 : decode cL_law 620 = .ok (.aload_n 0, 1) := by decide +kernel
set_option maxRecDepth 100000 in
theorem dL_law_621 : decode cL_law 621 = .ok (.iload_n 3, 1) := by decide +kernel
set_option maxRecDepth 100000 in
theorem dL_law_622 : decode cL_law 622 = .ok (.iconst 1, 1) := by decide +kernel
set_option maxRecDepth 100000 in
theorem dL_law_623 : decode cL_law 623 = .ok (.iadd, 1) := by decide +kernel
set_option maxRecDepth 100000 in
theorem dL_law_624 : decode cL_law 624 = .ok (.iaload, 1) := by decide +kernel
set_option maxRecDepth 100000 in
theorem dL_law_625 : decode cL_law 625 = .ok (.aload_n 0, 1) := by decide +kernel
set_option maxRecDepth 100000 in
theorem dL_law_626 : decode cL_law 626 = .ok (.iload_n 3, 1) := by decide +kernel
set_option maxRecDepth 100000 in
theorem dL_law_627 : decode cL_law 627 = .ok (.iconst 2, 1) := by decide +kernel
set_option maxRecDepth 100000 in
theorem dL_law_628 : decode cL_law 628 = .ok (.iadd, 1) := by decide +kernel
set_option maxRecDepth 100000 in
theorem dL_law_629 : decode cL_law 629 = .ok (.iaload, 1) := by decide +kernel
set_option maxRecDepth 100000 in
theorem dL_law_630 : decode cL_law 630 = .ok (.aload_n 0, 1) := by decide +kernel
set_option maxRecDepth 100000 in
theorem dL_law_631 : decode cL_law 631 = .ok (.iload_n 3, 1) := by decide +kernel
set_option maxRecDepth 100000 in
theorem dL_law_632 : decode cL_law 632 = .ok (.iconst 3, 1) := by decide +kernel
set_option maxRecDepth 100000 in
theorem dL_law_633 : decode cL_law 633 = .ok (.iadd, 1) := by decide +kernel
set_option maxRecDepth 100000 in
theorem dL_law_634 : decode cL_law 634 = .ok (.iaload, 1) := by decide +kernel
set_option maxRecDepth 100000 in
theorem dL_law_635 : decode cL_law 635 = .ok (.invokevirtual 62, 3) := by decide +kernel
set_option maxRecDepth 100000 in
theorem dL_law_638 : decode cL_law 638 = .ok (.if_icmp .eq 1263, 3) := by decide +kernel
set_option maxRecDepth 100000 in
theorem dL_law_641 : decode cL_law 641 = .ok (.iconst 0, 1) := by decide +kernel
set_option maxRecDepth 100000 in
theorem dL_law_642 : decode cL_law 642 = .ok (.ireturn, 1) := by decide +kernel
set_option maxRecDepth 100000 in
theorem dL_law_643 : decode cL_law 643 = .ok (.aload_n 1, 1) := by decide +kernel
set_option maxRecDepth 100000 in
theorem dL_law_644 : decode cL_law 644 = .ok (.aload_n 0, 1) := by decide +kernel
set_option maxRecDepth 100000 in
theorem dL_law_645 : decode cL_law 645 = .ok (.iload_n 3, 1) := by decide +kernel
set_option maxRecDepth 100000 in
theorem dL_law_646 : decode cL_law 646 = .ok (.iconst 1, 1) := by decide +kernel
set_option maxRecDepth 100000 in
theorem dL_law_647 : decode cL_law 647 = .ok (.iadd, 1) := by decide +kernel
set_option maxRecDepth 100000 in
theorem dL_law_648 : decode cL_law 648 = .ok (.iaload, 1) := by decide +kernel
set_option maxRecDepth 100000 in
theorem dL_law_649 : decode cL_law 649 = .ok (.aload_n 0, 1) := by decide +kernel
set_option maxRecDepth 100000 in
theorem dL_law_650 : decode cL_law 650 = .ok (.iload_n 3, 1) := by decide +kernel
set_option maxRecDepth 100000 in
theorem dL_law_651 : decode cL_law 651 = .ok (.iconst 2, 1) := by decide +kernel
set_option maxRecDepth 100000 in
theorem dL_law_652 : decode cL_law 652 = .ok (.iadd, 1) := by decide +kernel
set_option maxRecDepth 100000 in
theorem dL_law_653 : decode cL_law 653 = .ok (.iaload, 1) := by decide +kernel
set_option maxRecDepth 100000 in
theorem dL_law_654 : decode cL_law 654 = .ok (.invokevirtual 63, 3) := by decide +kernel
set_option maxRecDepth 100000 in
theorem dL_law_657 : decode cL_law 657 = .ok (.aload_n 2, 1) := by decide +kernel
set_option maxRecDepth 100000 in
theorem dL_law_658 : decode cL_law 658 = .ok (.aload_n 0, 1) := by decide +kernel
set_option maxRecDepth 100000 in
theorem dL_law_659 : decode cL_law 659 = .ok (.iload_n 3, 1) := by decide +kernel
