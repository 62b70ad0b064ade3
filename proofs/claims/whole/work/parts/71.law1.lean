theorem dd_La_216 : decode code 216 = .ok (.aload_n 1, 1) := by decide +kernel
theorem dd_La_217 : decode code 217 = .ok (.aload_n 0, 1) := by decide +kernel
theorem dd_La_218 : decode code 218 = .ok (.iload_n 3, 1) := by decide +kernel
theorem dd_La_219 : decode code 219 = .ok (.iconst 1, 1) := by decide +kernel
theorem dd_La_220 : decode code 220 = .ok (.iadd, 1) := by decide +kernel
theorem dd_La_221 : decode code 221 = .ok (.iaload, 1) := by decide +kernel
theorem dd_La_222 : decode code 222 = .ok (.aload_n 0, 1) := by decide +kernel
theorem dd_La_223 : decode code 223 = .ok (.iload_n 3, 1) := by decide +kernel
theorem dd_La_224 : decode code 224 = .ok (.iconst 2, 1) := by decide +kernel
theorem dd_La_225 : decode code 225 = .ok (.iadd, 1) := by decide +kernel
theorem dd_La_226 : decode code 226 = .ok (.iaload, 1) := by decide +kernel
theorem dd_La_227 : decode code 227 = .ok (.invokevirtual 13, 3) := by decide +kernel
theorem dd_La_230 : decode code 230 = .ok (.aload_n 2, 1) := by decide +kernel
theorem dd_La_231 : decode code 231 = .ok (.aload_n 0, 1) := by decide +kernel
theorem dd_La_232 : decode code 232 = .ok (.iload_n 3, 1) := by decide +kernel
theorem dd_La_233 : decode code 233 = .ok (.iconst 1, 1) := by decide +kernel
theorem dd_La_234 : decode code 234 = .ok (.iadd, 1) := by decide +kernel
theorem dd_La_235 : decode code 235 = .ok (.iaload, 1) := by decide +kernel
theorem dd_La_236 : decode code 236 = .ok (.aload_n 0, 1) := by decide +kernel
theorem dd_La_237 : decode code 237 = .ok (.iload_n 3, 1) := by decide +kernel
theorem dd_La_238 : decode code 238 = .ok (.iconst 2, 1) := by decide +kernel
theorem dd_La_239 : decode code 239 = .ok (.iadd, 1) := by decide +kernel
theorem dd_La_240 : decode code 240 = .ok (.iaload, 1) := by decide +kernel
theorem dd_La_241 : decode code 241 = .ok (.invokevirtual 17, 3) := by decide +kernel
theorem dd_La_244 : decode code 244 = .ok (.if_icmp .eq 1111, 3) := by decide +kernel
theorem dd_La_249 : decode code 249 = .ok (.aload_n 1, 1) := by decide +kernel
theorem dd_La_250 : decode code 250 = .ok (.aload_n 0, 1) := by decide +kernel
theorem dd_La_251 : decode code 251 = .ok (.iload_n 3, 1) := by decide +kernel
theorem dd_La_252 : decode code 252 = .ok (.iconst 1, 1) := by decide +kernel
theorem dd_La_253 : decode code 253 = .ok (.iadd, 1) := by decide +kernel
theorem dd_La_254 : decode code 254 = .ok (.iaload, 1) := by decide +kernel
theorem dd_La_255 : decode code 255 = .ok (.aload_n 0, 1) := by decide +kernel
theorem dd_La_256 : decode code 256 = .ok (.iload_n 3, 1) := by decide +kernel
theorem dd_La_257 : decode code 257 = .ok (.iconst 2, 1) := by decide +kernel
theorem dd_La_258 : decode code 258 = .ok (.iadd, 1) := by decide +kernel
theorem dd_La_259 : decode code 259 = .ok (.iaload, 1) := by decide +kernel
theorem dd_La_260 : decode code 260 = .ok (.aload_n 0, 1) := by decide +kernel
theorem dd_La_261 : decode code 261 = .ok (.iload_n 3, 1) := by decide +kernel
theorem dd_La_262 : decode code 262 = .ok (.iconst 3, 1) := by decide +kernel
theorem dd_La_263 : decode code 263 = .ok (.iadd, 1) := by decide +kernel
theorem dd_La_264 : decode code 264 = .ok (.iaload, 1) := by decide +kernel
theorem dd_La_265 : decode code 265 = .ok (.invokevirtual 18, 3) := by decide +kernel
theorem dd_La_268 : decode code 268 = .ok (.aload_n 2, 1) := by decide +kernel
theorem dd_La_269 : decode code 269 = .ok (.aload_n 0, 1) := by decide +kernel
theorem dd_La_270 : decode code 270 = .ok (.iload_n 3, 1) := by decide +kernel
theorem dd_La_271 : decode code 271 = .ok (.iconst 1, 1) := by decide +kernel
theorem dd_La_272 : decode code 272 = .ok (.iadd, 1) := by decide +kernel
theorem dd_La_273 : decode code 273 = .ok (.iaload, 1) := by decide +kernel
theorem dd_La_274 : decode code 274 = .ok (.aload_n 0, 1) := by decide +kernel
theorem dd_La_275 : decode code 275 = .ok (.iload_n 3, 1) := by decide +kernel
theorem dd_La_276 : decode code 276 = .ok (.iconst 2, 1) := by decide +kernel
theorem dd_La_277 : decode code 277 = .ok (.iadd, 1) := by decide +kernel
theorem dd_La_278 : decode code 278 = .ok (.iaload, 1) := by decide +kernel
theorem dd_La_279 : decode code 279 = .ok (.aload_n 0, 1) := by decide +kernel
theorem dd_La_280 : decode code 280 = .ok (.iload_n 3, 1) := by decide +kernel
theorem dd_La_281 : decode code 281 = .ok (.iconst 3, 1) := by decide +kernel
theorem dd_La_282 : decode code 282 = .ok (.iadd, 1) := by decide +kernel
theorem dd_La_283 : decode code 283 = .ok (.iaload, 1) := by decide +kernel
theorem dd_La_284 : decode code 284 = .ok (.invokevirtual 22, 3) := by decide +kernel
theorem dd_La_287 : decode code 287 = .ok (.if_icmp .eq 1068, 3) := by decide +kernel
theorem dd_La_292 : decode code 292 = .ok (.aload_n 1, 1) := by decide +kernel
theorem dd_La_293 : decode code 293 = .ok (.aload_n 0, 1) := by decide +kernel
theorem dd_La_294 : decode code 294 = .ok (.iload_n 3, 1) := by decide +kernel
theorem dd_La_295 : decode code 295 = .ok (.iconst 1, 1) := by decide +kernel
theorem dd_La_296 : decode code 296 = .ok (.iadd, 1) := by decide +kernel
theorem dd_La_297 : decode code 297 = .ok (.iaload, 1) := by decide +kernel
theorem dd_La_298 : decode code 298 = .ok (.aload_n 0, 1) := by decide +kernel
theorem dd_La_299 : decode code 299 = .ok (.iload_n 3, 1) := by decide +kernel
theorem dd_La_300 : decode code 300 = .ok (.iconst 2, 1) := by decide +kernel
theorem dd_La_301 : decode code 301 = .ok (.iadd, 1) := by decide +kernel
theorem dd_La_302 : decode code 302 = .ok (.iaload, 1) := by decide +kernel
theorem dd_La_303 : decode code 303 = .ok (.invokevirtual 23, 3) := by decide +kernel
theorem dd_La_306 : decode code 306 = .ok (.aload_n 2, 1) := by decide +kernel
theorem dd_La_307 : decode code 307 = .ok (.aload_n 0, 1) := by decide +kernel
theorem dd_La_308 : decode code 308 = .ok (.iload_n 3, 1) := by decide +kernel
theorem dd_La_309 : decode code 309 = .ok (.iconst 1, 1) := by decide +kernel
theorem dd_La_310 : decode code 310 = .ok (.iadd, 1) := by decide +kernel
theorem dd_La_311 : decode code 311 = .ok (.iaload, 1) := by decide +kernel
theorem dd_La_312 : decode code 312 = .ok (.aload_n 0, 1) := by decide +kernel
theorem dd_La_313 : decode code 313 = .ok (.iload_n 3, 1) := by decide +kernel
theorem dd_La_314 : decode code 314 = .ok (.iconst 2, 1) := by decide +kernel
theorem dd_La_315 : decode code 315 = .ok (.iadd, 1) := by decide +kernel
theorem dd_La_316 : decode code 316 = .ok (.iaload, 1) := by decide +kernel
theorem dd_La_317 : decode code 317 = .ok (.invokevirtual 26, 3) := by decide +kernel
theorem dd_La_320 : decode code 320 = .ok (.if_icmp .eq 1035, 3) := by decide +kernel
theorem dd_La_325 : decode code 325 = .ok (.aload_n 1, 1) := by decide +kernel
theorem dd_La_326 : decode code 326 = .ok (.aload_n 0, 1) := by decide +kernel
theorem dd_La_327 : decode code 327 = .ok (.iload_n 3, 1) := by decide +kernel
theorem dd_La_328 : decode code 328 = .ok (.iconst 1, 1) := by decide +kernel
theorem dd_La_329 : decode code 329 = .ok (.iadd, 1) := by decide +kernel
theorem dd_La_330 : decode code 330 = .ok (.iaload, 1) := by decide +kernel
theorem dd_La_331 : decode code 331 = .ok (.invokevirtual 27, 3) := by decide +kernel
theorem dd_La_334 : decode code 334 = .ok (.aload_n 2, 1) := by decide +kernel
theorem dd_La_335 : decode code 335 = .ok (.aload_n 0, 1) := by decide +kernel
theorem dd_La_336 : decode code 336 = .ok (.iload_n 3, 1) := by decide +kernel
theorem dd_La_337 : decode code 337 = .ok (.iconst 1, 1) := by decide +kernel
theorem dd_La_338 : decode code 338 = .ok (.iadd, 1) := by decide +kernel
theorem dd_La_339 : decode code 339 = .ok (.iaload, 1) := by decide +kernel
theorem dd_La_340 : decode code 340 = .ok (.invokevirtual 31, 3) := by decide +kernel
theorem dd_La_343 : decode code 343 = .ok (.if_icmp .eq 1012, 3) := by decide +kernel
theorem dd_La_348 : decode code 348 = .ok (.aload_n 1, 1) := by decide +kernel
theorem dd_La_349 : decode code 349 = .ok (.aload_n 0, 1) := by decide +kernel
theorem dd_La_350 : decode code 350 = .ok (.iload_n 3, 1) := by decide +kernel
theorem dd_La_351 : decode code 351 = .ok (.iconst 1, 1) := by decide +kernel
theorem dd_La_352 : decode code 352 = .ok (.iadd, 1) := by decide +kernel
theorem dd_La_353 : decode code 353 = .ok (.iaload, 1) := by decide +kernel
theorem dd_La_354 : decode code 354 = .ok (.aload_n 0, 1) := by decide +kernel
theorem dd_La_355 : decode code 355 = .ok (.iload_n 3, 1) := by decide +kernel
theorem dd_La_356 : decode code 356 = .ok (.iconst 2, 1) := by decide +kernel
theorem dd_La_357 : decode code 357 = .ok (.iadd, 1) := by decide +kernel
theorem dd_La_358 : decode code 358 = .ok (.iaload, 1) := by decide +kernel
theorem dd_La_359 : decode code 359 = .ok (.aload_n 0, 1) := by decide +kernel
theorem dd_La_360 : decode code 360 = .ok (.iload_n 3, 1) := by decide +kernel
theorem dd_La_361 : decode code 361 = .ok (.iconst 3, 1) := by decide +kernel
theorem dd_La_362 : decode code 362 = .ok (.iadd, 1) := by decide +kernel
theorem dd_La_363 : decode code 363 = .ok (.iaload, 1) := by decide +kernel
theorem dd_La_364 : decode code 364 = .ok (.aload_n 0, 1) := by decide +kernel
theorem dd_La_365 : decode code 365 = .ok (.iload_n 3, 1) := by decide +kernel
theorem dd_La_366 : decode code 366 = .ok (.iconst 4, 1) := by decide +kernel
theorem dd_La_367 : decode code 367 = .ok (.iadd, 1) := by decide +kernel
theorem dd_La_368 : decode code 368 = .ok (.iaload, 1) := by decide +kernel
theorem dd_La_369 : decode code 369 = .ok (.aload_n 0, 1) := by decide +kernel
theorem dd_La_370 : decode code 370 = .ok (.iload_n 3, 1) := by decide +kernel
theorem dd_La_371 : decode code 371 = .ok (.iconst 5, 1) := by decide +kernel
theorem dd_La_372 : decode code 372 = .ok (.iadd, 1) := by decide +kernel
theorem dd_La_373 : decode code 373 = .ok (.iaload, 1) := by decide +kernel
theorem dd_La_374 : decode code 374 = .ok (.invokevirtual 32, 3) := by decide +kernel
theorem dd_La_377 : decode code 377 = .ok (.aload_n 2, 1) := by decide +kernel
theorem dd_La_378 : decode code 378 = .ok (.aload_n 0, 1) := by decide +kernel
theorem dd_La_379 : decode code 379 = .ok (.iload_n 3, 1) := by decide +kernel
theorem dd_La_380 : decode code 380 = .ok (.iconst 1, 1) := by decide +kernel
theorem dd_La_381 : decode code 381 = .ok (.iadd, 1) := by decide +kernel
theorem dd_La_382 : decode code 382 = .ok (.iaload, 1) := by decide +kernel
theorem dd_La_383 : decode code 383 = .ok (.aload_n 0, 1) := by decide +kernel
theorem dd_La_384 : decode code 384 = .ok (.iload_n 3, 1) := by decide +kernel
theorem dd_La_385 : decode code 385 = .ok (.iconst 2, 1) := by decide +kernel
theorem dd_La_386 : decode code 386 = .ok (.iadd, 1) := by decide +kernel
theorem dd_La_387 : decode code 387 = .ok (.iaload, 1) := by decide +kernel
theorem dd_La_388 : decode code 388 = .ok (.aload_n 0, 1) := by decide +kernel
theorem dd_La_389 : decode code 389 = .ok (.iload_n 3, 1) := by decide +kernel
theorem dd_La_390 : decode code 390 = .ok (.iconst 3, 1) := by decide +kernel
theorem dd_La_391 : decode code 391 = .ok (.iadd, 1) := by decide +kernel
theorem dd_La_392 : decode code 392 = .ok (.iaload, 1) := by decide +kernel
theorem dd_La_393 : decode code 393 = .ok (.aload_n 0, 1) := by decide +kernel
theorem dd_La_394 : decode code 394 = .ok (.iload_n 3, 1) := by decide +kernel
theorem dd_La_395 : decode code 395 = .ok (.iconst 4, 1) := by decide +kernel
theorem dd_La_396 : decode code 396 = .ok (.iadd, 1) := by decide +kernel
theorem dd_La_397 : decode code 397 = .ok (.iaload, 1) := by decide +kernel
theorem dd_La_398 : decode code 398 = .ok (.aload_n 0, 1) := by decide +kernel
theorem dd_La_399 : decode code 399 = .ok (.iload_n 3, 1) := by decide +kernel
theorem dd_La_400 : decode code 400 = .ok (.iconst 5, 1) := by decide +kernel
theorem dd_La_401 : decode code 401 = .ok (.iadd, 1) := by decide +kernel
theorem dd_La_402 : decode code 402 = .ok (.iaload, 1) := by decide +kernel
theorem dd_La_403 : decode code 403 = .ok (.invokevirtual 36, 3) := by decide +kernel
theorem dd_La_406 : decode code 406 = .ok (.if_icmp .eq 949, 3) := by decide +kernel
theorem dd_La_411 : decode code 411 = .ok (.aload_n 1, 1) := by decide +kernel
theorem dd_La_412 : decode code 412 = .ok (.aload_n 0, 1) := by decide +kernel
theorem dd_La_413 : decode code 413 = .ok (.iload_n 3, 1) := by decide +kernel
theorem dd_La_414 : decode code 414 = .ok (.iconst 1, 1) := by decide +kernel
theorem dd_La_415 : decode code 415 = .ok (.iadd, 1) := by decide +kernel
theorem dd_La_416 : decode code 416 = .ok (.iaload, 1) := by decide +kernel
theorem dd_La_417 : decode code 417 = .ok (.invokevirtual 37, 3) := by decide +kernel
theorem dd_La_420 : decode code 420 = .ok (.aload_n 2, 1) := by decide +kernel
theorem dd_La_421 : decode code 421 = .ok (.aload_n 0, 1) := by decide +kernel
theorem dd_La_422 : decode code 422 = .ok (.iload_n 3, 1) := by decide +kernel
theorem dd_La_423 : decode code 423 = .ok (.iconst 1, 1) := by decide +kernel
theorem dd_La_424 : decode code 424 = .ok (.iadd, 1) := by decide +kernel
theorem dd_La_425 : decode code 425 = .ok (.iaload, 1) := by decide +kernel
theorem dd_La_426 : decode code 426 = .ok (.invokevirtual 40, 3) := by decide +kernel
theorem dd_La_429 : decode code 429 = .ok (.if_icmp .eq 926, 3) := by decide +kernel
theorem dd_La_434 : decode code 434 = .ok (.aload_n 1, 1) := by decide +kernel
theorem dd_La_435 : decode code 435 = .ok (.aload_n 0, 1) := by decide +kernel
theorem dd_La_436 : decode code 436 = .ok (.iload_n 3, 1) := by decide +kernel
theorem dd_La_437 : decode code 437 = .ok (.iconst 1, 1) := by decide +kernel
theorem dd_La_438 : decode code 438 = .ok (.iadd, 1) := by decide +kernel
theorem dd_La_439 : decode code 439 = .ok (.iaload, 1) := by decide +kernel
theorem dd_La_440 : decode code 440 = .ok (.aload_n 0, 1) := by decide +kernel
theorem dd_La_441 : decode code 441 = .ok (.iload_n 3, 1) := by decide +kernel
theorem dd_La_442 : decode code 442 = .ok (.iconst 2, 1) := by decide +kernel
theorem dd_La_443 : decode code 443 = .ok (.iadd, 1) := by decide +kernel
theorem dd_La_444 : decode code 444 = .ok (.iaload, 1) := by decide +kernel
theorem dd_La_445 : decode code 445 = .ok (.invokevirtual 41, 3) := by decide +kernel
theorem dd_La_448 : decode code 448 = .ok (.aload_n 2, 1) := by decide +kernel
theorem dd_La_449 : decode code 449 = .ok (.aload_n 0, 1) := by decide +kernel
theorem dd_La_450 : decode code 450 = .ok (.iload_n 3, 1) := by decide +kernel
theorem dd_La_451 : decode code 451 = .ok (.iconst 1, 1) := by decide +kernel
theorem dd_La_452 : decode code 452 = .ok (.iadd, 1) := by decide +kernel
theorem dd_La_453 : decode code 453 = .ok (.iaload, 1) := by decide +kernel
theorem dd_La_454 : decode code 454 = .ok (.aload_n 0, 1) := by decide +kernel
theorem dd_La_455 : decode code 455 = .ok (.iload_n 3, 1) := by decide +kernel
theorem dd_La_456 : decode code 456 = .ok (.iconst 2, 1) := by decide +kernel
theorem dd_La_457 : decode code 457 = .ok (.iadd, 1) := by decide +kernel
theorem dd_La_458 : decode code 458 = .ok (.iaload, 1) := by decide +kernel
theorem dd_La_459 : decode code 459 = .ok (.invokevirtual 44, 3) := by decide +kernel
theorem dd_La_462 : decode code 462 = .ok (.if_icmp .eq 893, 3) := by decide +kernel
set_option maxRecDepth 100000 in
set_option maxHeartbeats 4000000 in
theorem la_row {X : gf_X} {E : gf_E} {Q : State → Prop} {b L : Nat} {xs : Nat → Int32} (C : gf_C X E code 4 "GuardFiguresLaw" room_1) (S : la_S X E b L xs) {μ : gf_M} {i : Int} (hI : gf_I μ) (hi : 0 ≤ i ∧ i + 6 ≤ (L : Int)) (kk : ∀ μ' : gf_M, gf_I μ' → gf_G X E Q 4 la_φ μ' 1355 (la_lv E b i) []) : gf_G X E Q 4 la_φ μ 216 (la_lv E b i) [] := by
  show gf_G X E Q 4 la_φ μ 216 [(3, .int (gf_i i)), (2, .ref (gf_ad E 65)), (1, .ref (gf_ad E 0)), (0, .ref b)] []
  refine gf_aload_n C dd_La_216 2 rfl ?_
  refine gf_aload_n C dd_La_217 3 rfl ?_
  refine gf_iload_n C dd_La_218 0 rfl ?_
  refine gf_iconst C dd_La_219 ?_
  refine gf_iadd C dd_La_220 ?_
  refine gf_sld C S dd_La_221 (by omega) ?_
  refine gf_aload_n C dd_La_222 3 rfl ?_
  refine gf_iload_n C dd_La_223 0 rfl ?_
  refine gf_iconst C dd_La_224 ?_
  refine gf_iadd C dd_La_225 ?_
  refine gf_sld C S dd_La_226 (by omega) ?_
  refine gf_callVi2 (st := []) (As := [.int (gf_i (gf_sx xs (i + 1))), .int (gf_i (gf_sx xs (i + 2)))]) C wk_La_13 gf_cl6 (show gf_is 81 0 0 6 17 by decide) (ct_Fi_row (gf_xl X) E (gf_sx xs (i + 1)) (gf_sx xs (i + 2)) μ (gf_sx_R _ _) (gf_sx_R _ _)) rfl ⟨rfl, rfl, Nat.le_of_ble_eq_true rfl, Nat.le_of_ble_eq_true rfl⟩ (Nat.le_of_ble_eq_true rfl) rfl dd_La_227 (fun q1 μ1 hR1 hp1 => ?_)
  refine gf_aload_n C dd_La_230 1 rfl ?_
  refine gf_aload_n C dd_La_231 3 rfl ?_
  refine gf_iload_n C dd_La_232 0 rfl ?_
  refine gf_iconst C dd_La_233 ?_
  refine gf_iadd C dd_La_234 ?_
  refine gf_sld C S dd_La_235 (by omega) ?_
  refine gf_aload_n C dd_La_236 3 rfl ?_
  refine gf_iload_n C dd_La_237 0 rfl ?_
  refine gf_iconst C dd_La_238 ?_
  refine gf_iadd C dd_La_239 ?_
  refine gf_sld C S dd_La_240 (by omega) ?_
  have v := vw_row (r := gf_sx xs (i + 1)) (n := gf_sx xs (i + 2)) hI hp1
  refine gf_callVi2 (st := [.int (gf_i q1)]) (As := [.int (gf_i (gf_sx xs (i + 1))), .int (gf_i (gf_sx xs (i + 2)))]) C wk_La_17 gf_cl7 (show gf_is 81 65 0 7 26 by decide) (ct_Mo_row (gf_xl X) E (gf_sx xs (i + 1)) (gf_sx xs (i + 2)) μ1 (gf_sx_R _ _) (gf_sx_R _ _)) rfl ⟨rfl, rfl, Nat.le_of_ble_eq_true rfl, Nat.le_of_ble_eq_true rfl⟩ (Nat.le_of_ble_eq_true rfl) rfl dd_La_241 (fun q2 μ2 hR2 hp2 => ?_)
  have hst := st_row (r := gf_sx xs (i + 1)) (n := gf_sx xs (i + 2)) hI hp1 hp2
  exact gf_icmp_eq 1355 C dd_La_244 (by decide) hR1 hR2 (fun _ => kk μ2 hst.2) (fun h => absurd hst.1 h)
set_option maxRecDepth 100000 in
set_option maxHeartbeats 4000000 in
theorem la_lay {X : gf_X} {E : gf_E} {Q : State → Prop} {b L : Nat} {xs : Nat → Int32} (C : gf_C X E code 4 "GuardFiguresLaw" room_1) (S : la_S X E b L xs) {μ : gf_M} {i : Int} (hI : gf_I μ) (hi : 0 ≤ i ∧ i + 6 ≤ (L : Int)) (kk : ∀ μ' : gf_M, gf_I μ' → gf_G X E Q 4 la_φ μ' 1355 (la_lv E b i) []) : gf_G X E Q 4 la_φ μ 249 (la_lv E b i) [] := by
  show gf_G X E Q 4 la_φ μ 249 [(3, .int (gf_i i)), (2, .ref (gf_ad E 65)), (1, .ref (gf_ad E 0)), (0, .ref b)] []
  refine gf_aload_n C dd_La_249 2 rfl ?_
  refine gf_aload_n C dd_La_250 3 rfl ?_
  refine gf_iload_n C dd_La_251 0 rfl ?_
  refine gf_iconst C dd_La_252 ?_
  refine gf_iadd C dd_La_253 ?_
  refine gf_sld C S dd_La_254 (by omega) ?_
  refine gf_aload_n C dd_La_255 3 rfl ?_
  refine gf_iload_n C dd_La_256 0 rfl ?_
  refine gf_iconst C dd_La_257 ?_
  refine gf_iadd C dd_La_258 ?_
  refine gf_sld C S dd_La_259 (by omega) ?_
  refine gf_aload_n C dd_La_260 3 rfl ?_
  refine gf_iload_n C dd_La_261 0 rfl ?_
  refine gf_iconst C dd_La_262 ?_
  refine gf_iadd C dd_La_263 ?_
  refine gf_sld C S dd_La_264 (by omega) ?_
  refine gf_callVi2 (st := []) (As := [.int (gf_i (gf_sx xs (i + 1))), .int (gf_i (gf_sx xs (i + 2))), .int (gf_i (gf_sx xs (i + 3)))]) C wk_La_18 gf_cl6 (show gf_is 81 0 0 6 17 by decide) (ct_Fi_lay (gf_xl X) E (gf_sx xs (i + 1)) (gf_sx xs (i + 2)) (gf_sx xs (i + 3)) μ (gf_sx_R _ _) (gf_sx_R _ _) (gf_sx_R _ _) hI.rw) rfl ⟨rfl, rfl, Nat.le_of_ble_eq_true rfl, Nat.le_of_ble_eq_true rfl⟩ (Nat.le_of_ble_eq_true rfl) rfl dd_La_265 (fun q1 μ1 hR1 hp1 => ?_)
  refine gf_aload_n C dd_La_268 1 rfl ?_
  refine gf_aload_n C dd_La_269 3 rfl ?_
  refine gf_iload_n C dd_La_270 0 rfl ?_
  refine gf_iconst C dd_La_271 ?_
  refine gf_iadd C dd_La_272 ?_
  refine gf_sld C S dd_La_273 (by omega) ?_
  refine gf_aload_n C dd_La_274 3 rfl ?_
  refine gf_iload_n C dd_La_275 0 rfl ?_
  refine gf_iconst C dd_La_276 ?_
  refine gf_iadd C dd_La_277 ?_
  refine gf_sld C S dd_La_278 (by omega) ?_
  refine gf_aload_n C dd_La_279 3 rfl ?_
  refine gf_iload_n C dd_La_280 0 rfl ?_
  refine gf_iconst C dd_La_281 ?_
  refine gf_iadd C dd_La_282 ?_
  refine gf_sld C S dd_La_283 (by omega) ?_
  have v := vw_lay (r := gf_sx xs (i + 1)) (i := gf_sx xs (i + 2)) (v := gf_sx xs (i + 3)) hI hp1
  refine gf_callVi2 (st := [.int (gf_i q1)]) (As := [.int (gf_i (gf_sx xs (i + 1))), .int (gf_i (gf_sx xs (i + 2))), .int (gf_i (gf_sx xs (i + 3)))]) C wk_La_22 gf_cl7 (show gf_is 81 65 0 7 26 by decide) (ct_Mo_lay (gf_xl X) E (gf_sx xs (i + 1)) (gf_sx xs (i + 2)) (gf_sx xs (i + 3)) μ1 (gf_sx_R _ _) (gf_sx_R _ _) (gf_sx_R _ _) (hI.rs v)) rfl ⟨rfl, rfl, Nat.le_of_ble_eq_true rfl, Nat.le_of_ble_eq_true rfl⟩ (Nat.le_of_ble_eq_true rfl) rfl dd_La_284 (fun q2 μ2 hR2 hp2 => ?_)
  have hst := st_lay (r := gf_sx xs (i + 1)) (i := gf_sx xs (i + 2)) (v := gf_sx xs (i + 3)) hI hp1 hp2
  exact gf_icmp_eq 1355 C dd_La_287 (by decide) hR1 hR2 (fun _ => kk μ2 hst.2) (fun h => absurd hst.1 h)
set_option maxRecDepth 100000 in
set_option maxHeartbeats 4000000 in
theorem la_at {X : gf_X} {E : gf_E} {Q : State → Prop} {b L : Nat} {xs : Nat → Int32} (C : gf_C X E code 4 "GuardFiguresLaw" room_1) (S : la_S X E b L xs) {μ : gf_M} {i : Int} (hI : gf_I μ) (hi : 0 ≤ i ∧ i + 6 ≤ (L : Int)) (kk : ∀ μ' : gf_M, gf_I μ' → gf_G X E Q 4 la_φ μ' 1355 (la_lv E b i) []) : gf_G X E Q 4 la_φ μ 292 (la_lv E b i) [] := by
  show gf_G X E Q 4 la_φ μ 292 [(3, .int (gf_i i)), (2, .ref (gf_ad E 65)), (1, .ref (gf_ad E 0)), (0, .ref b)] []
  refine gf_aload_n C dd_La_292 2 rfl ?_
  refine gf_aload_n C dd_La_293 3 rfl ?_
  refine gf_iload_n C dd_La_294 0 rfl ?_
  refine gf_iconst C dd_La_295 ?_
  refine gf_iadd C dd_La_296 ?_
  refine gf_sld C S dd_La_297 (by omega) ?_
  refine gf_aload_n C dd_La_298 3 rfl ?_
  refine gf_iload_n C dd_La_299 0 rfl ?_
  refine gf_iconst C dd_La_300 ?_
  refine gf_iadd C dd_La_301 ?_
  refine gf_sld C S dd_La_302 (by omega) ?_
  refine gf_callVi2 (st := []) (As := [.int (gf_i (gf_sx xs (i + 1))), .int (gf_i (gf_sx xs (i + 2)))]) C wk_La_23 gf_cl6 (show gf_is 81 0 0 6 17 by decide) (ct_Fi_at (gf_xl X) E (gf_sx xs (i + 1)) (gf_sx xs (i + 2)) μ (gf_sx_R _ _) (gf_sx_R _ _) hI.rw) rfl ⟨rfl, rfl, Nat.le_of_ble_eq_true rfl, Nat.le_of_ble_eq_true rfl⟩ (Nat.le_of_ble_eq_true rfl) rfl dd_La_303 (fun q1 μ1 hR1 hp1 => ?_)
  refine gf_aload_n C dd_La_306 1 rfl ?_
  refine gf_aload_n C dd_La_307 3 rfl ?_
  refine gf_iload_n C dd_La_308 0 rfl ?_
  refine gf_iconst C dd_La_309 ?_
  refine gf_iadd C dd_La_310 ?_
  refine gf_sld C S dd_La_311 (by omega) ?_
  refine gf_aload_n C dd_La_312 3 rfl ?_
  refine gf_iload_n C dd_La_313 0 rfl ?_
  refine gf_iconst C dd_La_314 ?_
  refine gf_iadd C dd_La_315 ?_
  refine gf_sld C S dd_La_316 (by omega) ?_
  have v := vw_at (r := gf_sx xs (i + 1)) (i := gf_sx xs (i + 2)) hI hp1
  refine gf_callVi2 (st := [.int (gf_i q1)]) (As := [.int (gf_i (gf_sx xs (i + 1))), .int (gf_i (gf_sx xs (i + 2)))]) C wk_La_26 gf_cl7 (show gf_is 81 65 0 7 26 by decide) (ct_Mo_at (gf_xl X) E (gf_sx xs (i + 1)) (gf_sx xs (i + 2)) μ1 (gf_sx_R _ _) (gf_sx_R _ _) (hI.rs v)) rfl ⟨rfl, rfl, Nat.le_of_ble_eq_true rfl, Nat.le_of_ble_eq_true rfl⟩ (Nat.le_of_ble_eq_true rfl) rfl dd_La_317 (fun q2 μ2 hR2 hp2 => ?_)
  have hst := st_at (r := gf_sx xs (i + 1)) (i := gf_sx xs (i + 2)) hI hp1 hp2
  exact gf_icmp_eq 1355 C dd_La_320 (by decide) hR1 hR2 (fun _ => kk μ2 hst.2) (fun h => absurd hst.1 h)
set_option maxRecDepth 100000 in
set_option maxHeartbeats 4000000 in
theorem la_tear {X : gf_X} {E : gf_E} {Q : State → Prop} {b L : Nat} {xs : Nat → Int32} (C : gf_C X E code 4 "GuardFiguresLaw" room_1) (S : la_S X E b L xs) {μ : gf_M} {i : Int} (hI : gf_I μ) (hi : 0 ≤ i ∧ i + 6 ≤ (L : Int)) (kk : ∀ μ' : gf_M, gf_I μ' → gf_G X E Q 4 la_φ μ' 1355 (la_lv E b i) []) : gf_G X E Q 4 la_φ μ 325 (la_lv E b i) [] := by
  show gf_G X E Q 4 la_φ μ 325 [(3, .int (gf_i i)), (2, .ref (gf_ad E 65)), (1, .ref (gf_ad E 0)), (0, .ref b)] []
  refine gf_aload_n C dd_La_325 2 rfl ?_
  refine gf_aload_n C dd_La_326 3 rfl ?_
  refine gf_iload_n C dd_La_327 0 rfl ?_
  refine gf_iconst C dd_La_328 ?_
  refine gf_iadd C dd_La_329 ?_
  refine gf_sld C S dd_La_330 (by omega) ?_
  refine gf_callVi2 (st := []) (As := [.int (gf_i (gf_sx xs (i + 1)))]) C wk_La_27 gf_cl6 (show gf_is 81 0 0 6 17 by decide) (ct_Fi_tear (gf_xl X) E (gf_sx xs (i + 1)) μ (gf_sx_R _ _) hI.rw) rfl ⟨rfl, rfl, Nat.le_of_ble_eq_true rfl, Nat.le_of_ble_eq_true rfl⟩ (Nat.le_of_ble_eq_true rfl) rfl dd_La_331 (fun q1 μ1 hR1 hp1 => ?_)
  refine gf_aload_n C dd_La_334 1 rfl ?_
  refine gf_aload_n C dd_La_335 3 rfl ?_
  refine gf_iload_n C dd_La_336 0 rfl ?_
  refine gf_iconst C dd_La_337 ?_
  refine gf_iadd C dd_La_338 ?_
  refine gf_sld C S dd_La_339 (by omega) ?_
  have v := vw_tear (r := gf_sx xs (i + 1)) hI hp1
  refine gf_callVi2 (st := [.int (gf_i q1)]) (As := [.int (gf_i (gf_sx xs (i + 1)))]) C wk_La_31 gf_cl7 (show gf_is 81 65 0 7 26 by decide) (ct_Mo_tear (gf_xl X) E (gf_sx xs (i + 1)) μ1 (gf_sx_R _ _) (hI.rs v)) rfl ⟨rfl, rfl, Nat.le_of_ble_eq_true rfl, Nat.le_of_ble_eq_true rfl⟩ (Nat.le_of_ble_eq_true rfl) rfl dd_La_340 (fun q2 μ2 hR2 hp2 => ?_)
  have hst := st_tear (r := gf_sx xs (i + 1)) hI hp1 hp2
  exact gf_icmp_eq 1355 C dd_La_343 (by decide) hR1 hR2 (fun _ => kk μ2 hst.2) (fun h => absurd hst.1 h)
set_option maxRecDepth 100000 in
set_option maxHeartbeats 4000000 in
theorem la_copy {X : gf_X} {E : gf_E} {Q : State → Prop} {b L : Nat} {xs : Nat → Int32} (C : gf_C X E code 4 "GuardFiguresLaw" room_1) (S : la_S X E b L xs) {μ : gf_M} {i : Int} (hI : gf_I μ) (hi : 0 ≤ i ∧ i + 6 ≤ (L : Int)) (kk : ∀ μ' : gf_M, gf_I μ' → gf_G X E Q 4 la_φ μ' 1355 (la_lv E b i) []) : gf_G X E Q 4 la_φ μ 348 (la_lv E b i) [] := by
  show gf_G X E Q 4 la_φ μ 348 [(3, .int (gf_i i)), (2, .ref (gf_ad E 65)), (1, .ref (gf_ad E 0)), (0, .ref b)] []
  refine gf_aload_n C dd_La_348 2 rfl ?_
  refine gf_aload_n C dd_La_349 3 rfl ?_
  refine gf_iload_n C dd_La_350 0 rfl ?_
  refine gf_iconst C dd_La_351 ?_
  refine gf_iadd C dd_La_352 ?_
  refine gf_sld C S dd_La_353 (by omega) ?_
  refine gf_aload_n C dd_La_354 3 rfl ?_
  refine gf_iload_n C dd_La_355 0 rfl ?_
  refine gf_iconst C dd_La_356 ?_
  refine gf_iadd C dd_La_357 ?_
  refine gf_sld C S dd_La_358 (by omega) ?_
  refine gf_aload_n C dd_La_359 3 rfl ?_
  refine gf_iload_n C dd_La_360 0 rfl ?_
  refine gf_iconst C dd_La_361 ?_
  refine gf_iadd C dd_La_362 ?_
  refine gf_sld C S dd_La_363 (by omega) ?_
  refine gf_aload_n C dd_La_364 3 rfl ?_
  refine gf_iload_n C dd_La_365 0 rfl ?_
  refine gf_iconst C dd_La_366 ?_
  refine gf_iadd C dd_La_367 ?_
  refine gf_sld C S dd_La_368 (by omega) ?_
  refine gf_aload_n C dd_La_369 3 rfl ?_
  refine gf_iload_n C dd_La_370 0 rfl ?_
  refine gf_iconst C dd_La_371 ?_
  refine gf_iadd C dd_La_372 ?_
  refine gf_sld C S dd_La_373 (by omega) ?_
  refine gf_callVi2 (st := []) (As := [.int (gf_i (gf_sx xs (i + 1))), .int (gf_i (gf_sx xs (i + 2))), .int (gf_i (gf_sx xs (i + 3))), .int (gf_i (gf_sx xs (i + 4))), .int (gf_i (gf_sx xs (i + 5)))]) C wk_La_32 gf_cl6 (show gf_is 81 0 0 6 17 by decide) (ct_Fi_copy (gf_xl X) E (gf_sx xs (i + 1)) (gf_sx xs (i + 2)) (gf_sx xs (i + 3)) (gf_sx xs (i + 4)) (gf_sx xs (i + 5)) μ (gf_sx_R _ _) (gf_sx_R _ _) (gf_sx_R _ _) (gf_sx_R _ _) (gf_sx_R _ _) hI.rw) rfl ⟨rfl, rfl, Nat.le_of_ble_eq_true rfl, Nat.le_of_ble_eq_true rfl⟩ (Nat.le_of_ble_eq_true rfl) rfl dd_La_374 (fun q1 μ1 hR1 hp1 => ?_)
  refine gf_aload_n C dd_La_377 1 rfl ?_
  refine gf_aload_n C dd_La_378 3 rfl ?_
  refine gf_iload_n C dd_La_379 0 rfl ?_
  refine gf_iconst C dd_La_380 ?_
  refine gf_iadd C dd_La_381 ?_
  refine gf_sld C S dd_La_382 (by omega) ?_
  refine gf_aload_n C dd_La_383 3 rfl ?_
  refine gf_iload_n C dd_La_384 0 rfl ?_
  refine gf_iconst C dd_La_385 ?_
  refine gf_iadd C dd_La_386 ?_
  refine gf_sld C S dd_La_387 (by omega) ?_
  refine gf_aload_n C dd_La_388 3 rfl ?_
  refine gf_iload_n C dd_La_389 0 rfl ?_
  refine gf_iconst C dd_La_390 ?_
  refine gf_iadd C dd_La_391 ?_
  refine gf_sld C S dd_La_392 (by omega) ?_
  refine gf_aload_n C dd_La_393 3 rfl ?_
  refine gf_iload_n C dd_La_394 0 rfl ?_
  refine gf_iconst C dd_La_395 ?_
  refine gf_iadd C dd_La_396 ?_
  refine gf_sld C S dd_La_397 (by omega) ?_
  refine gf_aload_n C dd_La_398 3 rfl ?_
  refine gf_iload_n C dd_La_399 0 rfl ?_
  refine gf_iconst C dd_La_400 ?_
  refine gf_iadd C dd_La_401 ?_
  refine gf_sld C S dd_La_402 (by omega) ?_
  have v := vw_copy (r := gf_sx xs (i + 1)) (i := gf_sx xs (i + 2)) (o := gf_sx xs (i + 3)) (j := gf_sx xs (i + 4)) (n := gf_sx xs (i + 5)) hI hp1
  refine gf_callVi2 (st := [.int (gf_i q1)]) (As := [.int (gf_i (gf_sx xs (i + 1))), .int (gf_i (gf_sx xs (i + 2))), .int (gf_i (gf_sx xs (i + 3))), .int (gf_i (gf_sx xs (i + 4))), .int (gf_i (gf_sx xs (i + 5)))]) C wk_La_36 gf_cl7 (show gf_is 81 65 0 7 26 by decide) (ct_Mo_copy (gf_xl X) E (gf_sx xs (i + 1)) (gf_sx xs (i + 2)) (gf_sx xs (i + 3)) (gf_sx xs (i + 4)) (gf_sx xs (i + 5)) μ1 (gf_sx_R _ _) (gf_sx_R _ _) (gf_sx_R _ _) (gf_sx_R _ _) (gf_sx_R _ _) (hI.rs v)) rfl ⟨rfl, rfl, Nat.le_of_ble_eq_true rfl, Nat.le_of_ble_eq_true rfl⟩ (Nat.le_of_ble_eq_true rfl) rfl dd_La_403 (fun q2 μ2 hR2 hp2 => ?_)
  have hst := st_copy (r := gf_sx xs (i + 1)) (i := gf_sx xs (i + 2)) (o := gf_sx xs (i + 3)) (j := gf_sx xs (i + 4)) (n := gf_sx xs (i + 5)) hI hp1 hp2
  exact gf_icmp_eq 1355 C dd_La_406 (by decide) hR1 hR2 (fun _ => kk μ2 hst.2) (fun h => absurd hst.1 h)
set_option maxRecDepth 100000 in
set_option maxHeartbeats 4000000 in
theorem la_mean {X : gf_X} {E : gf_E} {Q : State → Prop} {b L : Nat} {xs : Nat → Int32} (C : gf_C X E code 4 "GuardFiguresLaw" room_1) (S : la_S X E b L xs) {μ : gf_M} {i : Int} (hI : gf_I μ) (hi : 0 ≤ i ∧ i + 6 ≤ (L : Int)) (kk : ∀ μ' : gf_M, gf_I μ' → gf_G X E Q 4 la_φ μ' 1355 (la_lv E b i) []) : gf_G X E Q 4 la_φ μ 411 (la_lv E b i) [] := by
  show gf_G X E Q 4 la_φ μ 411 [(3, .int (gf_i i)), (2, .ref (gf_ad E 65)), (1, .ref (gf_ad E 0)), (0, .ref b)] []
  refine gf_aload_n C dd_La_411 2 rfl ?_
  refine gf_aload_n C dd_La_412 3 rfl ?_
  refine gf_iload_n C dd_La_413 0 rfl ?_
  refine gf_iconst C dd_La_414 ?_
  refine gf_iadd C dd_La_415 ?_
  refine gf_sld C S dd_La_416 (by omega) ?_
  refine gf_callVi2 (st := []) (As := [.int (gf_i (gf_sx xs (i + 1)))]) C wk_La_37 gf_cl6 (show gf_is 81 0 0 6 17 by decide) (ct_Fi_mean (gf_xl X) E (gf_sx xs (i + 1)) μ (gf_sx_R _ _) hI.rw) rfl ⟨rfl, rfl, Nat.le_of_ble_eq_true rfl, Nat.le_of_ble_eq_true rfl⟩ (Nat.le_of_ble_eq_true rfl) rfl dd_La_417 (fun q1 μ1 hR1 hp1 => ?_)
  refine gf_aload_n C dd_La_420 1 rfl ?_
  refine gf_aload_n C dd_La_421 3 rfl ?_
  refine gf_iload_n C dd_La_422 0 rfl ?_
  refine gf_iconst C dd_La_423 ?_
  refine gf_iadd C dd_La_424 ?_
  refine gf_sld C S dd_La_425 (by omega) ?_
  have v := vw_mean (r := gf_sx xs (i + 1)) hI hp1
  refine gf_callVi2 (st := [.int (gf_i q1)]) (As := [.int (gf_i (gf_sx xs (i + 1)))]) C wk_La_40 gf_cl7 (show gf_is 81 65 0 7 26 by decide) (ct_Mo_mean (gf_xl X) E (gf_sx xs (i + 1)) μ1 (gf_sx_R _ _) (hI.rs v)) rfl ⟨rfl, rfl, Nat.le_of_ble_eq_true rfl, Nat.le_of_ble_eq_true rfl⟩ (Nat.le_of_ble_eq_true rfl) rfl dd_La_426 (fun q2 μ2 hR2 hp2 => ?_)
  have hst := st_mean (r := gf_sx xs (i + 1)) hI hp1 hp2
  exact gf_icmp_eq 1355 C dd_La_429 (by decide) hR1 hR2 (fun _ => kk μ2 hst.2) (fun h => absurd hst.1 h)
set_option maxRecDepth 100000 in
set_option maxHeartbeats 4000000 in
theorem la_text {X : gf_X} {E : gf_E} {Q : State → Prop} {b L : Nat} {xs : Nat → Int32} (C : gf_C X E code 4 "GuardFiguresLaw" room_1) (S : la_S X E b L xs) {μ : gf_M} {i : Int} (hI : gf_I μ) (hi : 0 ≤ i ∧ i + 6 ≤ (L : Int)) (kk : ∀ μ' : gf_M, gf_I μ' → gf_G X E Q 4 la_φ μ' 1355 (la_lv E b i) []) : gf_G X E Q 4 la_φ μ 434 (la_lv E b i) [] := by
  show gf_G X E Q 4 la_φ μ 434 [(3, .int (gf_i i)), (2, .ref (gf_ad E 65)), (1, .ref (gf_ad E 0)), (0, .ref b)] []
  refine gf_aload_n C dd_La_434 2 rfl ?_
  refine gf_aload_n C dd_La_435 3 rfl ?_
  refine gf_iload_n C dd_La_436 0 rfl ?_
  refine gf_iconst C dd_La_437 ?_
  refine gf_iadd C dd_La_438 ?_
  refine gf_sld C S dd_La_439 (by omega) ?_
  refine gf_aload_n C dd_La_440 3 rfl ?_
  refine gf_iload_n C dd_La_441 0 rfl ?_
  refine gf_iconst C dd_La_442 ?_
  refine gf_iadd C dd_La_443 ?_
  refine gf_sld C S dd_La_444 (by omega) ?_
  refine gf_callVi2 (st := []) (As := [.int (gf_i (gf_sx xs (i + 1))), .int (gf_i (gf_sx xs (i + 2)))]) C wk_La_41 gf_cl6 (show gf_is 81 0 0 6 17 by decide) (ct_Fi_text (gf_xl X) E (gf_sx xs (i + 1)) (gf_sx xs (i + 2)) μ (gf_sx_R _ _) (gf_sx_R _ _)) rfl ⟨rfl, rfl, Nat.le_of_ble_eq_true rfl, Nat.le_of_ble_eq_true rfl⟩ (Nat.le_of_ble_eq_true rfl) rfl dd_La_445 (fun q1 μ1 hR1 hp1 => ?_)
  refine gf_aload_n C dd_La_448 1 rfl ?_
  refine gf_aload_n C dd_La_449 3 rfl ?_
  refine gf_iload_n C dd_La_450 0 rfl ?_
  refine gf_iconst C dd_La_451 ?_
  refine gf_iadd C dd_La_452 ?_
  refine gf_sld C S dd_La_453 (by omega) ?_
  refine gf_aload_n C dd_La_454 3 rfl ?_
  refine gf_iload_n C dd_La_455 0 rfl ?_
  refine gf_iconst C dd_La_456 ?_
  refine gf_iadd C dd_La_457 ?_
  refine gf_sld C S dd_La_458 (by omega) ?_
  have v := vw_text (r := gf_sx xs (i + 1)) (n := gf_sx xs (i + 2)) hI hp1
  refine gf_callVi2 (st := [.int (gf_i q1)]) (As := [.int (gf_i (gf_sx xs (i + 1))), .int (gf_i (gf_sx xs (i + 2)))]) C wk_La_44 gf_cl7 (show gf_is 81 65 0 7 26 by decide) (ct_Mo_text (gf_xl X) E (gf_sx xs (i + 1)) (gf_sx xs (i + 2)) μ1 (gf_sx_R _ _) (gf_sx_R _ _)) rfl ⟨rfl, rfl, Nat.le_of_ble_eq_true rfl, Nat.le_of_ble_eq_true rfl⟩ (Nat.le_of_ble_eq_true rfl) rfl dd_La_459 (fun q2 μ2 hR2 hp2 => ?_)
  have hst := st_text (r := gf_sx xs (i + 1)) (n := gf_sx xs (i + 2)) hI hp1 hp2
  exact gf_icmp_eq 1355 C dd_La_462 (by decide) hR1 hR2 (fun _ => kk μ2 hst.2) (fun h => absurd hst.1 h)
