/-! ===== the law's loop: one step of the script by both ===== -/
def ML_law : xMI := (yL_law, cL_law, 4, some .boolean)
theorem roL (z : xZ) : (z.2.1 0, FieldType.int, z.2.2.1, z.2.2.2.1) ∈ (Cf z).2.2.2.2.1 := List.mem_append_left _ List.mem_cons_self
theorem r_iceqS {z : xZ} {d : Nat} {M : xMI} {Q : tQ} {pc : Nat} {lo : xLoc} {st : List Value} {c : tC} {L : tL} {x : Int32} {off : Int} (tgt : Nat) (h0 : decode M.2.1 pc = .ok (.if_icmp .eq off, 3)) (ht : (pc : Int) + off = (tgt : Int)) (k1 : En z (d + 1) M Q tgt lo st c L) : En z (d + 1) M Q pc lo (.int x :: .int x :: st) c L := e_iceq h0 ht (fun _ => k1) (fun e => absurd rfl e)
theorem r_lcmpS {z : xZ} {d : Nat} {M : xMI} {Q : tQ} {pc : Nat} {lo : xLoc} {st : List Value} {c : tC} {L : tL} {x : Int64} (q : Nat) (h0 : decode M.2.1 pc = .ok (.lcmp, 1)) (hq : pc + 1 = q) (k : En z (d + 1) M Q q lo (.int (iI 0) :: st) c L) : En z (d + 1) M Q pc lo (.long x :: .long x :: st) c L := by
  refine r_lcmpR q h0 hq ?_
  have e : lg_cmp x x = iI 0 := by
    unfold lg_cmp
    simp
    rfl
  rw [e]
  exact k
theorem la_0 {z : xZ} {d : Nat} {Q : tQ} {c : tC} {L : tL} {i0 : Nat} (hz : zF z) (hN : z.2.2.1 ≤ 3072) (hi : i0 + 6 ≤ z.2.2.1) (hRR : RR c L) (kk : ∀ c2 L2, RR c2 L2 → En z (d + 20 + 1) ML_law Q 1961 [some (.ref (z.2.1 0)), some (.ref (xad z 0 0)), some (.ref (xad z 50 0)), some (.int (iI (i0 : Int)))] [] c2 L2) : En z (d + 20 + 1) ML_law Q 244 [some (.ref (z.2.1 0)), some (.ref (xad z 0 0)), some (.ref (xad z 50 0)), some (.int (iI (i0 : Int)))] [] c L := by
  refine r_aloadN 245 dL_law_244 rfl rfl ?_
  refine r_aloadN 246 dL_law_245 rfl rfl ?_
  refine r_iloadN 247 dL_law_246 rfl rfl ?_
  refine r_iconst 248 dL_law_247 rfl ?_
  refine r_iadd 249 dL_law_248 rfl ?_
  refine r_ialr (n := z.2.2.1) 250 dL_law_249 (i0 + 1) rfl (by omega) (roL z) (by omega) (by omega) (by omega) ?_
  refine r_aloadN 251 dL_law_250 rfl rfl ?_
  refine r_iloadN 252 dL_law_251 rfl rfl ?_
  refine r_iconst 253 dL_law_252 rfl ?_
  refine r_iadd 254 dL_law_253 rfl ?_
  refine r_ialr (n := z.2.2.1) 255 dL_law_254 (i0 + 2) rfl (by omega) (roL z) (by omega) (by omega) (by omega) ?_
  refine r_aloadN 256 dL_law_255 rfl rfl ?_
  refine r_iloadN 257 dL_law_256 rfl rfl ?_
  refine r_iconst 258 dL_law_257 rfl ?_
  refine r_iadd 259 dL_law_258 rfl ?_
  refine r_ialr (n := z.2.2.1) 260 dL_law_259 (i0 + 3) rfl (by omega) (roL z) (by omega) (by omega) (by omega) ?_
  refine r_cv3 263 dL_law_260 rfl gL_13 rfl (by decide) (sh_0 z _) rfl rfl (Nat.le_of_ble_eq_true rfl) (Nat.le_of_ble_eq_true rfl) rfl ?_
  refine pr_row hRR (inR_toInt _) (inR_toInt _) (inR_toInt _) (fun r c1 L1 hm => ?_)
  refine r_aloadN 264 dL_law_263 rfl rfl ?_
  refine r_aloadN 265 dL_law_264 rfl rfl ?_
  refine r_iloadN 266 dL_law_265 rfl rfl ?_
  refine r_iconst 267 dL_law_266 rfl ?_
  refine r_iadd 268 dL_law_267 rfl ?_
  refine r_ialr (n := z.2.2.1) 269 dL_law_268 (i0 + 1) rfl (by omega) (roL z) (by omega) (by omega) (by omega) ?_
  refine r_aloadN 270 dL_law_269 rfl rfl ?_
  refine r_iloadN 271 dL_law_270 rfl rfl ?_
  refine r_iconst 272 dL_law_271 rfl ?_
  refine r_iadd 273 dL_law_272 rfl ?_
  refine r_ialr (n := z.2.2.1) 274 dL_law_273 (i0 + 2) rfl (by omega) (roL z) (by omega) (by omega) (by omega) ?_
  refine r_aloadN 275 dL_law_274 rfl rfl ?_
  refine r_iloadN 276 dL_law_275 rfl rfl ?_
  refine r_iconst 277 dL_law_276 rfl ?_
  refine r_iadd 278 dL_law_277 rfl ?_
  refine r_ialr (n := z.2.2.1) 279 dL_law_278 (i0 + 3) rfl (by omega) (roL z) (by omega) (by omega) (by omega) ?_
  refine r_cv3 282 dL_law_279 rfl gL_17 rfl (by decide) (sh_50 z _) rfl rfl (Nat.le_of_ble_eq_true rfl) (Nat.le_of_ble_eq_true rfl) rfl ?_
  refine hm _ _ (fun c2 L2 hR2 => ?_)
  refine r_iceqS 1961 dL_law_282 (by decide) ?_
  exact kk _ _ hR2
theorem la_1 {z : xZ} {d : Nat} {Q : tQ} {c : tC} {L : tL} {i0 : Nat} (hz : zF z) (hN : z.2.2.1 ≤ 3072) (hi : i0 + 6 ≤ z.2.2.1) (hRR : RR c L) (kk : ∀ c2 L2, RR c2 L2 → En z (d + 20 + 1) ML_law Q 1961 [some (.ref (z.2.1 0)), some (.ref (xad z 0 0)), some (.ref (xad z 50 0)), some (.int (iI (i0 : Int)))] [] c2 L2) : En z (d + 20 + 1) ML_law Q 287 [some (.ref (z.2.1 0)), some (.ref (xad z 0 0)), some (.ref (xad z 50 0)), some (.int (iI (i0 : Int)))] [] c L := by
  refine r_aloadN 288 dL_law_287 rfl rfl ?_
  refine r_aloadN 289 dL_law_288 rfl rfl ?_
  refine r_iloadN 290 dL_law_289 rfl rfl ?_
  refine r_iconst 291 dL_law_290 rfl ?_
  refine r_iadd 292 dL_law_291 rfl ?_
  refine r_ialr (n := z.2.2.1) 293 dL_law_292 (i0 + 1) rfl (by omega) (roL z) (by omega) (by omega) (by omega) ?_
  refine r_aloadN 294 dL_law_293 rfl rfl ?_
  refine r_iloadN 295 dL_law_294 rfl rfl ?_
  refine r_iconst 296 dL_law_295 rfl ?_
  refine r_iadd 297 dL_law_296 rfl ?_
  refine r_ialr (n := z.2.2.1) 298 dL_law_297 (i0 + 2) rfl (by omega) (roL z) (by omega) (by omega) (by omega) ?_
  refine r_aloadN 299 dL_law_298 rfl rfl ?_
  refine r_iloadN 300 dL_law_299 rfl rfl ?_
  refine r_iconst 301 dL_law_300 rfl ?_
  refine r_iadd 302 dL_law_301 rfl ?_
  refine r_ialr (n := z.2.2.1) 303 dL_law_302 (i0 + 3) rfl (by omega) (roL z) (by omega) (by omega) (by omega) ?_
  refine r_i2lR 304 dL_law_303 rfl ?_
  refine r_bipush 306 dL_law_304 rfl (by decide) ?_
  refine r_lshl 307 dL_law_306 rfl ?_
  refine r_aloadN 308 dL_law_307 rfl rfl ?_
  refine r_iloadN 309 dL_law_308 rfl rfl ?_
  refine r_iconst 310 dL_law_309 rfl ?_
  refine r_iadd 311 dL_law_310 rfl ?_
  refine r_ialr (n := z.2.2.1) 312 dL_law_311 (i0 + 4) rfl (by omega) (roL z) (by omega) (by omega) (by omega) ?_
  refine r_i2lR 313 dL_law_312 rfl ?_
  refine r_ldc2R 316 dL_law_313 rfl (kL_18 z) ?_
  refine r_land 317 dL_law_316 rfl ?_
  refine r_lor 318 dL_law_317 rfl ?_
  refine r_cv3 321 dL_law_318 rfl gL_20 rfl (by decide) (sh_0 z _) rfl rfl (Nat.le_of_ble_eq_true rfl) (Nat.le_of_ble_eq_true rfl) rfl ?_
  refine pr_set hRR (inR_toInt _) (inR_toInt _) (fun r c1 L1 hm => ?_)
  refine r_aloadN 322 dL_law_321 rfl rfl ?_
  refine r_aloadN 323 dL_law_322 rfl rfl ?_
  refine r_iloadN 324 dL_law_323 rfl rfl ?_
  refine r_iconst 325 dL_law_324 rfl ?_
  refine r_iadd 326 dL_law_325 rfl ?_
  refine r_ialr (n := z.2.2.1) 327 dL_law_326 (i0 + 1) rfl (by omega) (roL z) (by omega) (by omega) (by omega) ?_
  refine r_aloadN 328 dL_law_327 rfl rfl ?_
  refine r_iloadN 329 dL_law_328 rfl rfl ?_
  refine r_iconst 330 dL_law_329 rfl ?_
  refine r_iadd 331 dL_law_330 rfl ?_
  refine r_ialr (n := z.2.2.1) 332 dL_law_331 (i0 + 2) rfl (by omega) (roL z) (by omega) (by omega) (by omega) ?_
  refine r_aloadN 333 dL_law_332 rfl rfl ?_
  refine r_iloadN 334 dL_law_333 rfl rfl ?_
  refine r_iconst 335 dL_law_334 rfl ?_
  refine r_iadd 336 dL_law_335 rfl ?_
  refine r_ialr (n := z.2.2.1) 337 dL_law_336 (i0 + 3) rfl (by omega) (roL z) (by omega) (by omega) (by omega) ?_
  refine r_i2lR 338 dL_law_337 rfl ?_
  refine r_bipush 340 dL_law_338 rfl (by decide) ?_
  refine r_lshl 341 dL_law_340 rfl ?_
  refine r_aloadN 342 dL_law_341 rfl rfl ?_
  refine r_iloadN 343 dL_law_342 rfl rfl ?_
  refine r_iconst 344 dL_law_343 rfl ?_
  refine r_iadd 345 dL_law_344 rfl ?_
  refine r_ialr (n := z.2.2.1) 346 dL_law_345 (i0 + 4) rfl (by omega) (roL z) (by omega) (by omega) (by omega) ?_
  refine r_i2lR 347 dL_law_346 rfl ?_
  refine r_ldc2R 350 dL_law_347 rfl (kL_18 z) ?_
  refine r_land 351 dL_law_350 rfl ?_
  refine r_lor 352 dL_law_351 rfl ?_
  refine r_cv3 355 dL_law_352 rfl gL_24 rfl (by decide) (sh_50 z _) rfl rfl (Nat.le_of_ble_eq_true rfl) (Nat.le_of_ble_eq_true rfl) rfl ?_
  refine hm _ _ (fun c2 L2 hR2 => ?_)
  refine r_iceqS 1961 dL_law_355 (by decide) ?_
  exact kk _ _ hR2
theorem la_2 {z : xZ} {d : Nat} {Q : tQ} {c : tC} {L : tL} {i0 : Nat} (hz : zF z) (hN : z.2.2.1 ≤ 3072) (hi : i0 + 6 ≤ z.2.2.1) (hRR : RR c L) (kk : ∀ c2 L2, RR c2 L2 → En z (d + 20 + 1) ML_law Q 1961 [some (.ref (z.2.1 0)), some (.ref (xad z 0 0)), some (.ref (xad z 50 0)), some (.int (iI (i0 : Int)))] [] c2 L2) : En z (d + 20 + 1) ML_law Q 360 [some (.ref (z.2.1 0)), some (.ref (xad z 0 0)), some (.ref (xad z 50 0)), some (.int (iI (i0 : Int)))] [] c L := by
  refine r_aloadN 361 dL_law_360 rfl rfl ?_
  refine r_aloadN 362 dL_law_361 rfl rfl ?_
  refine r_iloadN 363 dL_law_362 rfl rfl ?_
  refine r_iconst 364 dL_law_363 rfl ?_
  refine r_iadd 365 dL_law_364 rfl ?_
  refine r_ialr (n := z.2.2.1) 366 dL_law_365 (i0 + 1) rfl (by omega) (roL z) (by omega) (by omega) (by omega) ?_
  refine r_aloadN 367 dL_law_366 rfl rfl ?_
  refine r_iloadN 368 dL_law_367 rfl rfl ?_
  refine r_iconst 369 dL_law_368 rfl ?_
  refine r_iadd 370 dL_law_369 rfl ?_
  refine r_ialr (n := z.2.2.1) 371 dL_law_370 (i0 + 2) rfl (by omega) (roL z) (by omega) (by omega) (by omega) ?_
  refine r_aloadN 372 dL_law_371 rfl rfl ?_
  refine r_iloadN 373 dL_law_372 rfl rfl ?_
  refine r_iconst 374 dL_law_373 rfl ?_
  refine r_iadd 375 dL_law_374 rfl ?_
  refine r_ialr (n := z.2.2.1) 376 dL_law_375 (i0 + 3) rfl (by omega) (roL z) (by omega) (by omega) (by omega) ?_
  refine r_aloadN 377 dL_law_376 rfl rfl ?_
  refine r_iloadN 378 dL_law_377 rfl rfl ?_
  refine r_iconst 379 dL_law_378 rfl ?_
  refine r_iadd 380 dL_law_379 rfl ?_
  refine r_ialr (n := z.2.2.1) 381 dL_law_380 (i0 + 4) rfl (by omega) (roL z) (by omega) (by omega) (by omega) ?_
  refine r_aloadN 382 dL_law_381 rfl rfl ?_
  refine r_iloadN 383 dL_law_382 rfl rfl ?_
  refine r_iconst 384 dL_law_383 rfl ?_
  refine r_iadd 385 dL_law_384 rfl ?_
  refine r_ialr (n := z.2.2.1) 386 dL_law_385 (i0 + 5) rfl (by omega) (roL z) (by omega) (by omega) (by omega) ?_
  refine r_cv5 389 dL_law_386 rfl gL_25 rfl (by decide) (sh_0 z _) rfl rfl (Nat.le_of_ble_eq_true rfl) (Nat.le_of_ble_eq_true rfl) rfl ?_
  refine pr_copy hRR (inR_toInt _) (inR_toInt _) (inR_toInt _) (inR_toInt _) (inR_toInt _) (fun r c1 L1 hm => ?_)
  refine r_aloadN 390 dL_law_389 rfl rfl ?_
  refine r_aloadN 391 dL_law_390 rfl rfl ?_
  refine r_iloadN 392 dL_law_391 rfl rfl ?_
  refine r_iconst 393 dL_law_392 rfl ?_
  refine r_iadd 394 dL_law_393 rfl ?_
  refine r_ialr (n := z.2.2.1) 395 dL_law_394 (i0 + 1) rfl (by omega) (roL z) (by omega) (by omega) (by omega) ?_
  refine r_aloadN 396 dL_law_395 rfl rfl ?_
  refine r_iloadN 397 dL_law_396 rfl rfl ?_
  refine r_iconst 398 dL_law_397 rfl ?_
  refine r_iadd 399 dL_law_398 rfl ?_
  refine r_ialr (n := z.2.2.1) 400 dL_law_399 (i0 + 2) rfl (by omega) (roL z) (by omega) (by omega) (by omega) ?_
  refine r_aloadN 401 dL_law_400 rfl rfl ?_
  refine r_iloadN 402 dL_law_401 rfl rfl ?_
  refine r_iconst 403 dL_law_402 rfl ?_
  refine r_iadd 404 dL_law_403 rfl ?_
  refine r_ialr (n := z.2.2.1) 405 dL_law_404 (i0 + 3) rfl (by omega) (roL z) (by omega) (by omega) (by omega) ?_
  refine r_aloadN 406 dL_law_405 rfl rfl ?_
  refine r_iloadN 407 dL_law_406 rfl rfl ?_
  refine r_iconst 408 dL_law_407 rfl ?_
  refine r_iadd 409 dL_law_408 rfl ?_
  refine r_ialr (n := z.2.2.1) 410 dL_law_409 (i0 + 4) rfl (by omega) (roL z) (by omega) (by omega) (by omega) ?_
  refine r_aloadN 411 dL_law_410 rfl rfl ?_
  refine r_iloadN 412 dL_law_411 rfl rfl ?_
  refine r_iconst 413 dL_law_412 rfl ?_
  refine r_iadd 414 dL_law_413 rfl ?_
  refine r_ialr (n := z.2.2.1) 415 dL_law_414 (i0 + 5) rfl (by omega) (roL z) (by omega) (by omega) (by omega) ?_
  refine r_cv5 418 dL_law_415 rfl gL_29 rfl (by decide) (sh_50 z _) rfl rfl (Nat.le_of_ble_eq_true rfl) (Nat.le_of_ble_eq_true rfl) rfl ?_
  refine hm _ _ (fun c2 L2 hR2 => ?_)
  refine r_iceqS 1961 dL_law_418 (by decide) ?_
  exact kk _ _ hR2
theorem la_3 {z : xZ} {d : Nat} {Q : tQ} {c : tC} {L : tL} {i0 : Nat} (hz : zF z) (hN : z.2.2.1 ≤ 3072) (hi : i0 + 6 ≤ z.2.2.1) (hRR : RR c L) (kk : ∀ c2 L2, RR c2 L2 → En z (d + 20 + 1) ML_law Q 1961 [some (.ref (z.2.1 0)), some (.ref (xad z 0 0)), some (.ref (xad z 50 0)), some (.int (iI (i0 : Int)))] [] c2 L2) : En z (d + 20 + 1) ML_law Q 423 [some (.ref (z.2.1 0)), some (.ref (xad z 0 0)), some (.ref (xad z 50 0)), some (.int (iI (i0 : Int)))] [] c L := by
  refine r_aloadN 424 dL_law_423 rfl rfl ?_
  refine r_aloadN 425 dL_law_424 rfl rfl ?_
  refine r_iloadN 426 dL_law_425 rfl rfl ?_
  refine r_iconst 427 dL_law_426 rfl ?_
  refine r_iadd 428 dL_law_427 rfl ?_
  refine r_ialr (n := z.2.2.1) 429 dL_law_428 (i0 + 1) rfl (by omega) (roL z) (by omega) (by omega) (by omega) ?_
  refine r_aloadN 430 dL_law_429 rfl rfl ?_
  refine r_iloadN 431 dL_law_430 rfl rfl ?_
  refine r_iconst 432 dL_law_431 rfl ?_
  refine r_iadd 433 dL_law_432 rfl ?_
  refine r_ialr (n := z.2.2.1) 434 dL_law_433 (i0 + 2) rfl (by omega) (roL z) (by omega) (by omega) (by omega) ?_
  refine r_cv2 437 dL_law_434 rfl gL_30 rfl (by decide) (sh_0 z _) rfl rfl (Nat.le_of_ble_eq_true rfl) (Nat.le_of_ble_eq_true rfl) rfl ?_
  refine pr_element hRR (inR_toInt _) (inR_toInt _) (fun r c1 L1 hm => ?_)
  refine r_aloadN 438 dL_law_437 rfl rfl ?_
  refine r_aloadN 439 dL_law_438 rfl rfl ?_
  refine r_iloadN 440 dL_law_439 rfl rfl ?_
  refine r_iconst 441 dL_law_440 rfl ?_
  refine r_iadd 442 dL_law_441 rfl ?_
  refine r_ialr (n := z.2.2.1) 443 dL_law_442 (i0 + 1) rfl (by omega) (roL z) (by omega) (by omega) (by omega) ?_
  refine r_aloadN 444 dL_law_443 rfl rfl ?_
  refine r_iloadN 445 dL_law_444 rfl rfl ?_
  refine r_iconst 446 dL_law_445 rfl ?_
  refine r_iadd 447 dL_law_446 rfl ?_
  refine r_ialr (n := z.2.2.1) 448 dL_law_447 (i0 + 2) rfl (by omega) (roL z) (by omega) (by omega) (by omega) ?_
  refine r_cv2 451 dL_law_448 rfl gL_34 rfl (by decide) (sh_50 z _) rfl rfl (Nat.le_of_ble_eq_true rfl) (Nat.le_of_ble_eq_true rfl) rfl ?_
  refine hm _ _ (fun c2 L2 hR2 => ?_)
  refine r_lcmpS 452 dL_law_451 rfl ?_
  refine r_ifeqT 1961 0 dL_law_452 (by decide) (by decide) rfl ?_
  exact kk _ _ hR2
theorem la_4 {z : xZ} {d : Nat} {Q : tQ} {c : tC} {L : tL} {i0 : Nat} (hz : zF z) (hN : z.2.2.1 ≤ 3072) (hi : i0 + 6 ≤ z.2.2.1) (hRR : RR c L) (kk : ∀ c2 L2, RR c2 L2 → En z (d + 20 + 1) ML_law Q 1961 [some (.ref (z.2.1 0)), some (.ref (xad z 0 0)), some (.ref (xad z 50 0)), some (.int (iI (i0 : Int)))] [] c2 L2) : En z (d + 20 + 1) ML_law Q 457 [some (.ref (z.2.1 0)), some (.ref (xad z 0 0)), some (.ref (xad z 50 0)), some (.int (iI (i0 : Int)))] [] c L := by
  refine r_aloadN 458 dL_law_457 rfl rfl ?_
  refine r_aloadN 459 dL_law_458 rfl rfl ?_
  refine r_iloadN 460 dL_law_459 rfl rfl ?_
  refine r_iconst 461 dL_law_460 rfl ?_
  refine r_iadd 462 dL_law_461 rfl ?_
  refine r_ialr (n := z.2.2.1) 463 dL_law_462 (i0 + 1) rfl (by omega) (roL z) (by omega) (by omega) (by omega) ?_
  refine r_aloadN 464 dL_law_463 rfl rfl ?_
  refine r_iloadN 465 dL_law_464 rfl rfl ?_
  refine r_iconst 466 dL_law_465 rfl ?_
  refine r_iadd 467 dL_law_466 rfl ?_
  refine r_ialr (n := z.2.2.1) 468 dL_law_467 (i0 + 2) rfl (by omega) (roL z) (by omega) (by omega) (by omega) ?_
  refine r_cv2 471 dL_law_468 rfl gL_35 rfl (by decide) (sh_0 z _) rfl rfl (Nat.le_of_ble_eq_true rfl) (Nat.le_of_ble_eq_true rfl) rfl ?_
  refine pr_show hRR (inR_toInt _) (inR_toInt _) (fun r c1 L1 hm => ?_)
  refine r_aloadN 472 dL_law_471 rfl rfl ?_
  refine r_aloadN 473 dL_law_472 rfl rfl ?_
  refine r_iloadN 474 dL_law_473 rfl rfl ?_
  refine r_iconst 475 dL_law_474 rfl ?_
  refine r_iadd 476 dL_law_475 rfl ?_
  refine r_ialr (n := z.2.2.1) 477 dL_law_476 (i0 + 1) rfl (by omega) (roL z) (by omega) (by omega) (by omega) ?_
  refine r_aloadN 478 dL_law_477 rfl rfl ?_
  refine r_iloadN 479 dL_law_478 rfl rfl ?_
  refine r_iconst 480 dL_law_479 rfl ?_
  refine r_iadd 481 dL_law_480 rfl ?_
  refine r_ialr (n := z.2.2.1) 482 dL_law_481 (i0 + 2) rfl (by omega) (roL z) (by omega) (by omega) (by omega) ?_
  refine r_cv2 485 dL_law_482 rfl gL_39 rfl (by decide) (sh_50 z _) rfl rfl (Nat.le_of_ble_eq_true rfl) (Nat.le_of_ble_eq_true rfl) rfl ?_
  refine hm _ _ (fun c2 L2 hR2 => ?_)
  refine r_iceqS 1961 dL_law_485 (by decide) ?_
  exact kk _ _ hR2
theorem la_5 {z : xZ} {d : Nat} {Q : tQ} {c : tC} {L : tL} {i0 : Nat} (hz : zF z) (hN : z.2.2.1 ≤ 3072) (hi : i0 + 6 ≤ z.2.2.1) (hRR : RR c L) (kk : ∀ c2 L2, RR c2 L2 → En z (d + 20 + 1) ML_law Q 1961 [some (.ref (z.2.1 0)), some (.ref (xad z 0 0)), some (.ref (xad z 50 0)), some (.int (iI (i0 : Int)))] [] c2 L2) : En z (d + 20 + 1) ML_law Q 490 [some (.ref (z.2.1 0)), some (.ref (xad z 0 0)), some (.ref (xad z 50 0)), some (.int (iI (i0 : Int)))] [] c L := by
  refine r_aloadN 491 dL_law_490 rfl rfl ?_
  refine r_aloadN 492 dL_law_491 rfl rfl ?_
  refine r_iloadN 493 dL_law_492 rfl rfl ?_
  refine r_iconst 494 dL_law_493 rfl ?_
  refine r_iadd 495 dL_law_494 rfl ?_
  refine r_ialr (n := z.2.2.1) 496 dL_law_495 (i0 + 1) rfl (by omega) (roL z) (by omega) (by omega) (by omega) ?_
  refine r_cv1 499 dL_law_496 rfl gL_40 rfl (by decide) (sh_0 z _) rfl rfl (Nat.le_of_ble_eq_true rfl) (Nat.le_of_ble_eq_true rfl) rfl ?_
  refine pr_holds hRR (inR_toInt _) (fun r c1 L1 hm => ?_)
  refine r_aloadN 500 dL_law_499 rfl rfl ?_
  refine r_aloadN 501 dL_law_500 rfl rfl ?_
  refine r_iloadN 502 dL_law_501 rfl rfl ?_
  refine r_iconst 503 dL_law_502 rfl ?_
  refine r_iadd 504 dL_law_503 rfl ?_
  refine r_ialr (n := z.2.2.1) 505 dL_law_504 (i0 + 1) rfl (by omega) (roL z) (by omega) (by omega) (by omega) ?_
  refine r_cv1 508 dL_law_505 rfl gL_44 rfl (by decide) (sh_50 z _) rfl rfl (Nat.le_of_ble_eq_true rfl) (Nat.le_of_ble_eq_true rfl) rfl ?_
  refine hm _ _ (fun c2 L2 hR2 => ?_)
  refine r_iceqS 1961 dL_law_508 (by decide) ?_
  exact kk _ _ hR2
theorem la_6 {z : xZ} {d : Nat} {Q : tQ} {c : tC} {L : tL} {i0 : Nat} (hz : zF z) (hN : z.2.2.1 ≤ 3072) (hi : i0 + 6 ≤ z.2.2.1) (hRR : RR c L) (kk : ∀ c2 L2, RR c2 L2 → En z (d + 20 + 1) ML_law Q 1961 [some (.ref (z.2.1 0)), some (.ref (xad z 0 0)), some (.ref (xad z 50 0)), some (.int (iI (i0 : Int)))] [] c2 L2) : En z (d + 20 + 1) ML_law Q 513 [some (.ref (z.2.1 0)), some (.ref (xad z 0 0)), some (.ref (xad z 50 0)), some (.int (iI (i0 : Int)))] [] c L := by
  refine r_aloadN 514 dL_law_513 rfl rfl ?_
  refine r_aloadN 515 dL_law_514 rfl rfl ?_
  refine r_iloadN 516 dL_law_515 rfl rfl ?_
  refine r_iconst 517 dL_law_516 rfl ?_
  refine r_iadd 518 dL_law_517 rfl ?_
  refine r_ialr (n := z.2.2.1) 519 dL_law_518 (i0 + 1) rfl (by omega) (roL z) (by omega) (by omega) (by omega) ?_
  refine r_aloadN 520 dL_law_519 rfl rfl ?_
  refine r_iloadN 521 dL_law_520 rfl rfl ?_
  refine r_iconst 522 dL_law_521 rfl ?_
  refine r_iadd 523 dL_law_522 rfl ?_
  refine r_ialr (n := z.2.2.1) 524 dL_law_523 (i0 + 2) rfl (by omega) (roL z) (by omega) (by omega) (by omega) ?_
  refine r_cv2 527 dL_law_524 rfl gL_45 rfl (by decide) (sh_0 z _) rfl rfl (Nat.le_of_ble_eq_true rfl) (Nat.le_of_ble_eq_true rfl) rfl ?_
  refine pr_says hRR (inR_toInt _) (inR_toInt _) (fun r c1 L1 hm => ?_)
  refine r_aloadN 528 dL_law_527 rfl rfl ?_
  refine r_aloadN 529 dL_law_528 rfl rfl ?_
  refine r_iloadN 530 dL_law_529 rfl rfl ?_
  refine r_iconst 531 dL_law_530 rfl ?_
  refine r_iadd 532 dL_law_531 rfl ?_
  refine r_ialr (n := z.2.2.1) 533 dL_law_532 (i0 + 1) rfl (by omega) (roL z) (by omega) (by omega) (by omega) ?_
  refine r_aloadN 534 dL_law_533 rfl rfl ?_
  refine r_iloadN 535 dL_law_534 rfl rfl ?_
  refine r_iconst 536 dL_law_535 rfl ?_
  refine r_iadd 537 dL_law_536 rfl ?_
  refine r_ialr (n := z.2.2.1) 538 dL_law_537 (i0 + 2) rfl (by omega) (roL z) (by omega) (by omega) (by omega) ?_
  refine r_cv2 541 dL_law_538 rfl gL_48 rfl (by decide) (sh_50 z _) rfl rfl (Nat.le_of_ble_eq_true rfl) (Nat.le_of_ble_eq_true rfl) rfl ?_
  refine hm _ _ (fun c2 L2 hR2 => ?_)
  refine r_iceqS 1961 dL_law_541 (by decide) ?_
  exact kk _ _ hR2
theorem la_7 {z : xZ} {d : Nat} {Q : tQ} {c : tC} {L : tL} {i0 : Nat} (hz : zF z) (hN : z.2.2.1 ≤ 3072) (hi : i0 + 6 ≤ z.2.2.1) (hRR : RR c L) (kk : ∀ c2 L2, RR c2 L2 → En z (d + 20 + 1) ML_law Q 1961 [some (.ref (z.2.1 0)), some (.ref (xad z 0 0)), some (.ref (xad z 50 0)), some (.int (iI (i0 : Int)))] [] c2 L2) : En z (d + 20 + 1) ML_law Q 546 [some (.ref (z.2.1 0)), some (.ref (xad z 0 0)), some (.ref (xad z 50 0)), some (.int (iI (i0 : Int)))] [] c L := by
  refine r_aloadN 547 dL_law_546 rfl rfl ?_
  refine r_aloadN 548 dL_law_547 rfl rfl ?_
  refine r_iloadN 549 dL_law_548 rfl rfl ?_
  refine r_iconst 550 dL_law_549 rfl ?_
  refine r_iadd 551 dL_law_550 rfl ?_
  refine r_ialr (n := z.2.2.1) 552 dL_law_551 (i0 + 1) rfl (by omega) (roL z) (by omega) (by omega) (by omega) ?_
  refine r_aloadN 553 dL_law_552 rfl rfl ?_
  refine r_iloadN 554 dL_law_553 rfl rfl ?_
  refine r_iconst 555 dL_law_554 rfl ?_
  refine r_iadd 556 dL_law_555 rfl ?_
  refine r_ialr (n := z.2.2.1) 557 dL_law_556 (i0 + 2) rfl (by omega) (roL z) (by omega) (by omega) (by omega) ?_
  refine r_aloadN 558 dL_law_557 rfl rfl ?_
  refine r_iloadN 559 dL_law_558 rfl rfl ?_
  refine r_iconst 560 dL_law_559 rfl ?_
  refine r_iadd 561 dL_law_560 rfl ?_
  refine r_ialr (n := z.2.2.1) 562 dL_law_561 (i0 + 3) rfl (by omega) (roL z) (by omega) (by omega) (by omega) ?_
  refine r_aloadN 563 dL_law_562 rfl rfl ?_
  refine r_iloadN 564 dL_law_563 rfl rfl ?_
  refine r_iconst 565 dL_law_564 rfl ?_
  refine r_iadd 566 dL_law_565 rfl ?_
  refine r_ialr (n := z.2.2.1) 567 dL_law_566 (i0 + 4) rfl (by omega) (roL z) (by omega) (by omega) (by omega) ?_
  refine r_aloadN 568 dL_law_567 rfl rfl ?_
  refine r_iloadN 569 dL_law_568 rfl rfl ?_
  refine r_iconst 570 dL_law_569 rfl ?_
  refine r_iadd 571 dL_law_570 rfl ?_
  refine r_ialr (n := z.2.2.1) 572 dL_law_571 (i0 + 5) rfl (by omega) (roL z) (by omega) (by omega) (by omega) ?_
  by_cases hb : (z.2.2.2.1 (i0 + 5)).toInt = 0
  · refine r_ifeqT 579 0 dL_law_572 (by decide) (inR_toInt _) hb ?_
    refine r_iconst 580 dL_law_579 rfl ?_
    refine r_cv5 583 dL_law_580 rfl gL_49 rfl (by decide) (sh_0 z _) rfl rfl (Nat.le_of_ble_eq_true rfl) (Nat.le_of_ble_eq_true rfl) rfl ?_
    refine pr_person hRR (inR_toInt _) (inR_toInt _) (inR_toInt _) (inR_toInt _) (by decide) (Or.inl rfl) (fun r c1 L1 hm => ?_)
    refine r_aloadN 584 dL_law_583 rfl rfl ?_
    refine r_aloadN 585 dL_law_584 rfl rfl ?_
    refine r_iloadN 586 dL_law_585 rfl rfl ?_
    refine r_iconst 587 dL_law_586 rfl ?_
    refine r_iadd 588 dL_law_587 rfl ?_
    refine r_ialr (n := z.2.2.1) 589 dL_law_588 (i0 + 1) rfl (by omega) (roL z) (by omega) (by omega) (by omega) ?_
    refine r_aloadN 590 dL_law_589 rfl rfl ?_
    refine r_iloadN 591 dL_law_590 rfl rfl ?_
    refine r_iconst 592 dL_law_591 rfl ?_
    refine r_iadd 593 dL_law_592 rfl ?_
    refine r_ialr (n := z.2.2.1) 594 dL_law_593 (i0 + 2) rfl (by omega) (roL z) (by omega) (by omega) (by omega) ?_
    refine r_aloadN 595 dL_law_594 rfl rfl ?_
    refine r_iloadN 596 dL_law_595 rfl rfl ?_
    refine r_iconst 597 dL_law_596 rfl ?_
    refine r_iadd 598 dL_law_597 rfl ?_
    refine r_ialr (n := z.2.2.1) 599 dL_law_598 (i0 + 3) rfl (by omega) (roL z) (by omega) (by omega) (by omega) ?_
    refine r_aloadN 600 dL_law_599 rfl rfl ?_
    refine r_iloadN 601 dL_law_600 rfl rfl ?_
    refine r_iconst 602 dL_law_601 rfl ?_
    refine r_iadd 603 dL_law_602 rfl ?_
    refine r_ialr (n := z.2.2.1) 604 dL_law_603 (i0 + 4) rfl (by omega) (roL z) (by omega) (by omega) (by omega) ?_
    refine r_aloadN 605 dL_law_604 rfl rfl ?_
    refine r_iloadN 606 dL_law_605 rfl rfl ?_
    refine r_iconst 607 dL_law_606 rfl ?_
    refine r_iadd 608 dL_law_607 rfl ?_
    refine r_ialr (n := z.2.2.1) 609 dL_law_608 (i0 + 5) rfl (by omega) (roL z) (by omega) (by omega) (by omega) ?_
    refine r_ifeqT 616 0 dL_law_609 (by decide) (inR_toInt _) hb ?_
    refine r_iconst 617 dL_law_616 rfl ?_
    refine r_cv5 620 dL_law_617 rfl gL_53 rfl (by decide) (sh_50 z _) rfl rfl (Nat.le_of_ble_eq_true rfl) (Nat.le_of_ble_eq_true rfl) rfl ?_
    refine hm _ _ (fun c2 L2 hR2 => ?_)
    refine r_iceqS 1961 dL_law_620 (by decide) ?_
    exact kk _ _ hR2
  · refine r_ifeqF 575 dL_law_572 rfl 579 (by decide) (inR_toInt _) hb ?_
    refine r_iconst 576 dL_law_575 rfl ?_
    refine r_goto 580 dL_law_576 (by decide) ?_
    refine r_cv5 583 dL_law_580 rfl gL_49 rfl (by decide) (sh_0 z _) rfl rfl (Nat.le_of_ble_eq_true rfl) (Nat.le_of_ble_eq_true rfl) rfl ?_
    refine pr_person hRR (inR_toInt _) (inR_toInt _) (inR_toInt _) (inR_toInt _) (by decide) (Or.inr rfl) (fun r c1 L1 hm => ?_)
    refine r_aloadN 584 dL_law_583 rfl rfl ?_
    refine r_aloadN 585 dL_law_584 rfl rfl ?_
    refine r_iloadN 586 dL_law_585 rfl rfl ?_
    refine r_iconst 587 dL_law_586 rfl ?_
    refine r_iadd 588 dL_law_587 rfl ?_
    refine r_ialr (n := z.2.2.1) 589 dL_law_588 (i0 + 1) rfl (by omega) (roL z) (by omega) (by omega) (by omega) ?_
    refine r_aloadN 590 dL_law_589 rfl rfl ?_
    refine r_iloadN 591 dL_law_590 rfl rfl ?_
    refine r_iconst 592 dL_law_591 rfl ?_
    refine r_iadd 593 dL_law_592 rfl ?_
    refine r_ialr (n := z.2.2.1) 594 dL_law_593 (i0 + 2) rfl (by omega) (roL z) (by omega) (by omega) (by omega) ?_
    refine r_aloadN 595 dL_law_594 rfl rfl ?_
    refine r_iloadN 596 dL_law_595 rfl rfl ?_
    refine r_iconst 597 dL_law_596 rfl ?_
    refine r_iadd 598 dL_law_597 rfl ?_
    refine r_ialr (n := z.2.2.1) 599 dL_law_598 (i0 + 3) rfl (by omega) (roL z) (by omega) (by omega) (by omega) ?_
    refine r_aloadN 600 dL_law_599 rfl rfl ?_
    refine r_iloadN 601 dL_law_600 rfl rfl ?_
    refine r_iconst 602 dL_law_601 rfl ?_
    refine r_iadd 603 dL_law_602 rfl ?_
    refine r_ialr (n := z.2.2.1) 604 dL_law_603 (i0 + 4) rfl (by omega) (roL z) (by omega) (by omega) (by omega) ?_
    refine r_aloadN 605 dL_law_604 rfl rfl ?_
    refine r_iloadN 606 dL_law_605 rfl rfl ?_
    refine r_iconst 607 dL_law_606 rfl ?_
    refine r_iadd 608 dL_law_607 rfl ?_
    refine r_ialr (n := z.2.2.1) 609 dL_law_608 (i0 + 5) rfl (by omega) (roL z) (by omega) (by omega) (by omega) ?_
    refine r_ifeqF 612 dL_law_609 rfl 616 (by decide) (inR_toInt _) hb ?_
    refine r_iconst 613 dL_law_612 rfl ?_
    refine r_goto 617 dL_law_613 (by decide) ?_
    refine r_cv5 620 dL_law_617 rfl gL_53 rfl (by decide) (sh_50 z _) rfl rfl (Nat.le_of_ble_eq_true rfl) (Nat.le_of_ble_eq_true rfl) rfl ?_
    refine hm _ _ (fun c2 L2 hR2 => ?_)
    refine r_iceqS 1961 dL_law_620 (by decide) ?_
    exact kk _ _ hR2
theorem la_8 {z : xZ} {d : Nat} {Q : tQ} {c : tC} {L : tL} {i0 : Nat} (hz : zF z) (hN : z.2.2.1 ≤ 3072) (hi : i0 + 6 ≤ z.2.2.1) (hRR : RR c L) (kk : ∀ c2 L2, RR c2 L2 → En z (d + 20 + 1) ML_law Q 1961 [some (.ref (z.2.1 0)), some (.ref (xad z 0 0)), some (.ref (xad z 50 0)), some (.int (iI (i0 : Int)))] [] c2 L2) : En z (d + 20 + 1) ML_law Q 625 [some (.ref (z.2.1 0)), some (.ref (xad z 0 0)), some (.ref (xad z 50 0)), some (.int (iI (i0 : Int)))] [] c L := by
  refine r_aloadN 626 dL_law_625 rfl rfl ?_
  refine r_aloadN 627 dL_law_626 rfl rfl ?_
  refine r_iloadN 628 dL_law_627 rfl rfl ?_
  refine r_iconst 629 dL_law_628 rfl ?_
  refine r_iadd 630 dL_law_629 rfl ?_
  refine r_ialr (n := z.2.2.1) 631 dL_law_630 (i0 + 1) rfl (by omega) (roL z) (by omega) (by omega) (by omega) ?_
  refine r_aloadN 632 dL_law_631 rfl rfl ?_
  refine r_iloadN 633 dL_law_632 rfl rfl ?_
  refine r_iconst 634 dL_law_633 rfl ?_
  refine r_iadd 635 dL_law_634 rfl ?_
  refine r_ialr (n := z.2.2.1) 636 dL_law_635 (i0 + 2) rfl (by omega) (roL z) (by omega) (by omega) (by omega) ?_
  refine r_cv2 639 dL_law_636 rfl gL_54 rfl (by decide) (sh_0 z _) rfl rfl (Nat.le_of_ble_eq_true rfl) (Nat.le_of_ble_eq_true rfl) rfl ?_
  refine pr_go hRR (inR_toInt _) (inR_toInt _) (fun r c1 L1 hm => ?_)
  refine r_aloadN 640 dL_law_639 rfl rfl ?_
  refine r_aloadN 641 dL_law_640 rfl rfl ?_
  refine r_iloadN 642 dL_law_641 rfl rfl ?_
  refine r_iconst 643 dL_law_642 rfl ?_
  refine r_iadd 644 dL_law_643 rfl ?_
  refine r_ialr (n := z.2.2.1) 645 dL_law_644 (i0 + 1) rfl (by omega) (roL z) (by omega) (by omega) (by omega) ?_
  refine r_aloadN 646 dL_law_645 rfl rfl ?_
  refine r_iloadN 647 dL_law_646 rfl rfl ?_
  refine r_iconst 648 dL_law_647 rfl ?_
  refine r_iadd 649 dL_law_648 rfl ?_
  refine r_ialr (n := z.2.2.1) 650 dL_law_649 (i0 + 2) rfl (by omega) (roL z) (by omega) (by omega) (by omega) ?_
  refine r_cv2 653 dL_law_650 rfl gL_57 rfl (by decide) (sh_50 z _) rfl rfl (Nat.le_of_ble_eq_true rfl) (Nat.le_of_ble_eq_true rfl) rfl ?_
  refine hm _ _ (fun c2 L2 hR2 => ?_)
  refine r_iceqS 1961 dL_law_653 (by decide) ?_
  exact kk _ _ hR2
theorem la_9 {z : xZ} {d : Nat} {Q : tQ} {c : tC} {L : tL} {i0 : Nat} (hz : zF z) (hN : z.2.2.1 ≤ 3072) (hi : i0 + 6 ≤ z.2.2.1) (hRR : RR c L) (kk : ∀ c2 L2, RR c2 L2 → En z (d + 20 + 1) ML_law Q 1961 [some (.ref (z.2.1 0)), some (.ref (xad z 0 0)), some (.ref (xad z 50 0)), some (.int (iI (i0 : Int)))] [] c2 L2) : En z (d + 20 + 1) ML_law Q 658 [some (.ref (z.2.1 0)), some (.ref (xad z 0 0)), some (.ref (xad z 50 0)), some (.int (iI (i0 : Int)))] [] c L := by
  refine r_aloadN 659 dL_law_658 rfl rfl ?_
  refine r_aloadN 660 dL_law_659 rfl rfl ?_
  refine r_iloadN 661 dL_law_660 rfl rfl ?_
  refine r_iconst 662 dL_law_661 rfl ?_
  refine r_iadd 663 dL_law_662 rfl ?_
  refine r_ialr (n := z.2.2.1) 664 dL_law_663 (i0 + 1) rfl (by omega) (roL z) (by omega) (by omega) (by omega) ?_
  refine r_aloadN 665 dL_law_664 rfl rfl ?_
  refine r_iloadN 666 dL_law_665 rfl rfl ?_
  refine r_iconst 667 dL_law_666 rfl ?_
  refine r_iadd 668 dL_law_667 rfl ?_
  refine r_ialr (n := z.2.2.1) 669 dL_law_668 (i0 + 2) rfl (by omega) (roL z) (by omega) (by omega) (by omega) ?_
  refine r_aloadN 670 dL_law_669 rfl rfl ?_
  refine r_iloadN 671 dL_law_670 rfl rfl ?_
  refine r_iconst 672 dL_law_671 rfl ?_
  refine r_iadd 673 dL_law_672 rfl ?_
  refine r_ialr (n := z.2.2.1) 674 dL_law_673 (i0 + 3) rfl (by omega) (roL z) (by omega) (by omega) (by omega) ?_
  refine r_aloadN 675 dL_law_674 rfl rfl ?_
  refine r_iloadN 676 dL_law_675 rfl rfl ?_
  refine r_iconst 677 dL_law_676 rfl ?_
  refine r_iadd 678 dL_law_677 rfl ?_
  refine r_ialr (n := z.2.2.1) 679 dL_law_678 (i0 + 4) rfl (by omega) (roL z) (by omega) (by omega) (by omega) ?_
  refine r_cv4 682 dL_law_679 rfl gL_58 rfl (by decide) (sh_0 z _) rfl rfl (Nat.le_of_ble_eq_true rfl) (Nat.le_of_ble_eq_true rfl) rfl ?_
  refine pr_source hRR (inR_toInt _) (inR_toInt _) (inR_toInt _) (inR_toInt _) (fun r c1 L1 hm => ?_)
  refine r_aloadN 683 dL_law_682 rfl rfl ?_
  refine r_aloadN 684 dL_law_683 rfl rfl ?_
  refine r_iloadN 685 dL_law_684 rfl rfl ?_
  refine r_iconst 686 dL_law_685 rfl ?_
  refine r_iadd 687 dL_law_686 rfl ?_
  refine r_ialr (n := z.2.2.1) 688 dL_law_687 (i0 + 1) rfl (by omega) (roL z) (by omega) (by omega) (by omega) ?_
  refine r_aloadN 689 dL_law_688 rfl rfl ?_
  refine r_iloadN 690 dL_law_689 rfl rfl ?_
  refine r_iconst 691 dL_law_690 rfl ?_
  refine r_iadd 692 dL_law_691 rfl ?_
  refine r_ialr (n := z.2.2.1) 693 dL_law_692 (i0 + 2) rfl (by omega) (roL z) (by omega) (by omega) (by omega) ?_
  refine r_aloadN 694 dL_law_693 rfl rfl ?_
  refine r_iloadN 695 dL_law_694 rfl rfl ?_
  refine r_iconst 696 dL_law_695 rfl ?_
  refine r_iadd 697 dL_law_696 rfl ?_
  refine r_ialr (n := z.2.2.1) 698 dL_law_697 (i0 + 3) rfl (by omega) (roL z) (by omega) (by omega) (by omega) ?_
  refine r_aloadN 699 dL_law_698 rfl rfl ?_
  refine r_iloadN 700 dL_law_699 rfl rfl ?_
  refine r_iconst 701 dL_law_700 rfl ?_
  refine r_iadd 702 dL_law_701 rfl ?_
  refine r_ialr (n := z.2.2.1) 703 dL_law_702 (i0 + 4) rfl (by omega) (roL z) (by omega) (by omega) (by omega) ?_
  refine r_cv4 706 dL_law_703 rfl gL_62 rfl (by decide) (sh_50 z _) rfl rfl (Nat.le_of_ble_eq_true rfl) (Nat.le_of_ble_eq_true rfl) rfl ?_
  refine hm _ _ (fun c2 L2 hR2 => ?_)
  refine r_iceqS 1961 dL_law_706 (by decide) ?_
  exact kk _ _ hR2
theorem la_10 {z : xZ} {d : Nat} {Q : tQ} {c : tC} {L : tL} {i0 : Nat} (hz : zF z) (hN : z.2.2.1 ≤ 3072) (hi : i0 + 6 ≤ z.2.2.1) (hRR : RR c L) (kk : ∀ c2 L2, RR c2 L2 → En z (d + 20 + 1) ML_law Q 1961 [some (.ref (z.2.1 0)), some (.ref (xad z 0 0)), some (.ref (xad z 50 0)), some (.int (iI (i0 : Int)))] [] c2 L2) : En z (d + 20 + 1) ML_law Q 711 [some (.ref (z.2.1 0)), some (.ref (xad z 0 0)), some (.ref (xad z 50 0)), some (.int (iI (i0 : Int)))] [] c L := by
  refine r_aloadN 712 dL_law_711 rfl rfl ?_
  refine r_aloadN 713 dL_law_712 rfl rfl ?_
  refine r_iloadN 714 dL_law_713 rfl rfl ?_
  refine r_iconst 715 dL_law_714 rfl ?_
  refine r_iadd 716 dL_law_715 rfl ?_
  refine r_ialr (n := z.2.2.1) 717 dL_law_716 (i0 + 1) rfl (by omega) (roL z) (by omega) (by omega) (by omega) ?_
  refine r_aloadN 718 dL_law_717 rfl rfl ?_
  refine r_iloadN 719 dL_law_718 rfl rfl ?_
  refine r_iconst 720 dL_law_719 rfl ?_
  refine r_iadd 721 dL_law_720 rfl ?_
  refine r_ialr (n := z.2.2.1) 722 dL_law_721 (i0 + 2) rfl (by omega) (roL z) (by omega) (by omega) (by omega) ?_
  refine r_aloadN 723 dL_law_722 rfl rfl ?_
  refine r_iloadN 724 dL_law_723 rfl rfl ?_
  refine r_iconst 725 dL_law_724 rfl ?_
  refine r_iadd 726 dL_law_725 rfl ?_
  refine r_ialr (n := z.2.2.1) 727 dL_law_726 (i0 + 3) rfl (by omega) (roL z) (by omega) (by omega) (by omega) ?_
  refine r_cv3 730 dL_law_727 rfl gL_63 rfl (by decide) (sh_0 z _) rfl rfl (Nat.le_of_ble_eq_true rfl) (Nat.le_of_ble_eq_true rfl) rfl ?_
  refine pr_hours hRR (inR_toInt _) (inR_toInt _) (inR_toInt _) (fun r c1 L1 hm => ?_)
  refine r_aloadN 731 dL_law_730 rfl rfl ?_
  refine r_aloadN 732 dL_law_731 rfl rfl ?_
  refine r_iloadN 733 dL_law_732 rfl rfl ?_
  refine r_iconst 734 dL_law_733 rfl ?_
  refine r_iadd 735 dL_law_734 rfl ?_
  refine r_ialr (n := z.2.2.1) 736 dL_law_735 (i0 + 1) rfl (by omega) (roL z) (by omega) (by omega) (by omega) ?_
  refine r_aloadN 737 dL_law_736 rfl rfl ?_
  refine r_iloadN 738 dL_law_737 rfl rfl ?_
  refine r_iconst 739 dL_law_738 rfl ?_
  refine r_iadd 740 dL_law_739 rfl ?_
  refine r_ialr (n := z.2.2.1) 741 dL_law_740 (i0 + 2) rfl (by omega) (roL z) (by omega) (by omega) (by omega) ?_
  refine r_aloadN 742 dL_law_741 rfl rfl ?_
  refine r_iloadN 743 dL_law_742 rfl rfl ?_
  refine r_iconst 744 dL_law_743 rfl ?_
  refine r_iadd 745 dL_law_744 rfl ?_
  refine r_ialr (n := z.2.2.1) 746 dL_law_745 (i0 + 3) rfl (by omega) (roL z) (by omega) (by omega) (by omega) ?_
  refine r_cv3 749 dL_law_746 rfl gL_66 rfl (by decide) (sh_50 z _) rfl rfl (Nat.le_of_ble_eq_true rfl) (Nat.le_of_ble_eq_true rfl) rfl ?_
  refine hm _ _ (fun c2 L2 hR2 => ?_)
  refine r_iceqS 1961 dL_law_749 (by decide) ?_
  exact kk _ _ hR2
theorem la_11 {z : xZ} {d : Nat} {Q : tQ} {c : tC} {L : tL} {i0 : Nat} (hz : zF z) (hN : z.2.2.1 ≤ 3072) (hi : i0 + 6 ≤ z.2.2.1) (hRR : RR c L) (kk : ∀ c2 L2, RR c2 L2 → En z (d + 20 + 1) ML_law Q 1961 [some (.ref (z.2.1 0)), some (.ref (xad z 0 0)), some (.ref (xad z 50 0)), some (.int (iI (i0 : Int)))] [] c2 L2) : En z (d + 20 + 1) ML_law Q 754 [some (.ref (z.2.1 0)), some (.ref (xad z 0 0)), some (.ref (xad z 50 0)), some (.int (iI (i0 : Int)))] [] c L := by
  refine r_aloadN 755 dL_law_754 rfl rfl ?_
  refine r_aloadN 756 dL_law_755 rfl rfl ?_
  refine r_iloadN 757 dL_law_756 rfl rfl ?_
  refine r_iconst 758 dL_law_757 rfl ?_
  refine r_iadd 759 dL_law_758 rfl ?_
  refine r_ialr (n := z.2.2.1) 760 dL_law_759 (i0 + 1) rfl (by omega) (roL z) (by omega) (by omega) (by omega) ?_
  refine r_aloadN 761 dL_law_760 rfl rfl ?_
  refine r_iloadN 762 dL_law_761 rfl rfl ?_
  refine r_iconst 763 dL_law_762 rfl ?_
  refine r_iadd 764 dL_law_763 rfl ?_
  refine r_ialr (n := z.2.2.1) 765 dL_law_764 (i0 + 2) rfl (by omega) (roL z) (by omega) (by omega) (by omega) ?_
  refine r_cv2 768 dL_law_765 rfl gL_67 rfl (by decide) (sh_0 z _) rfl rfl (Nat.le_of_ble_eq_true rfl) (Nat.le_of_ble_eq_true rfl) rfl ?_
  refine pr_cost hRR (inR_toInt _) (inR_toInt _) (fun r c1 L1 hm => ?_)
  refine r_aloadN 769 dL_law_768 rfl rfl ?_
  refine r_aloadN 770 dL_law_769 rfl rfl ?_
  refine r_iloadN 771 dL_law_770 rfl rfl ?_
  refine r_iconst 772 dL_law_771 rfl ?_
  refine r_iadd 773 dL_law_772 rfl ?_
  refine r_ialr (n := z.2.2.1) 774 dL_law_773 (i0 + 1) rfl (by omega) (roL z) (by omega) (by omega) (by omega) ?_
  refine r_aloadN 775 dL_law_774 rfl rfl ?_
  refine r_iloadN 776 dL_law_775 rfl rfl ?_
  refine r_iconst 777 dL_law_776 rfl ?_
  refine r_iadd 778 dL_law_777 rfl ?_
  refine r_ialr (n := z.2.2.1) 779 dL_law_778 (i0 + 2) rfl (by omega) (roL z) (by omega) (by omega) (by omega) ?_
  refine r_cv2 782 dL_law_779 rfl gL_70 rfl (by decide) (sh_50 z _) rfl rfl (Nat.le_of_ble_eq_true rfl) (Nat.le_of_ble_eq_true rfl) rfl ?_
  refine hm _ _ (fun c2 L2 hR2 => ?_)
  refine r_iceqS 1961 dL_law_782 (by decide) ?_
  exact kk _ _ hR2
theorem la_12 {z : xZ} {d : Nat} {Q : tQ} {c : tC} {L : tL} {i0 : Nat} (hz : zF z) (hN : z.2.2.1 ≤ 3072) (hi : i0 + 6 ≤ z.2.2.1) (hRR : RR c L) (kk : ∀ c2 L2, RR c2 L2 → En z (d + 20 + 1) ML_law Q 1961 [some (.ref (z.2.1 0)), some (.ref (xad z 0 0)), some (.ref (xad z 50 0)), some (.int (iI (i0 : Int)))] [] c2 L2) : En z (d + 20 + 1) ML_law Q 787 [some (.ref (z.2.1 0)), some (.ref (xad z 0 0)), some (.ref (xad z 50 0)), some (.int (iI (i0 : Int)))] [] c L := by
  refine r_aloadN 788 dL_law_787 rfl rfl ?_
  refine r_aloadN 789 dL_law_788 rfl rfl ?_
  refine r_iloadN 790 dL_law_789 rfl rfl ?_
  refine r_iconst 791 dL_law_790 rfl ?_
  refine r_iadd 792 dL_law_791 rfl ?_
  refine r_ialr (n := z.2.2.1) 793 dL_law_792 (i0 + 1) rfl (by omega) (roL z) (by omega) (by omega) (by omega) ?_
  refine r_aloadN 794 dL_law_793 rfl rfl ?_
  refine r_iloadN 795 dL_law_794 rfl rfl ?_
  refine r_iconst 796 dL_law_795 rfl ?_
  refine r_iadd 797 dL_law_796 rfl ?_
  refine r_ialr (n := z.2.2.1) 798 dL_law_797 (i0 + 2) rfl (by omega) (roL z) (by omega) (by omega) (by omega) ?_
  by_cases hb : (z.2.2.2.1 (i0 + 2)).toInt = 0
  · refine r_ifeqT 805 0 dL_law_798 (by decide) (inR_toInt _) hb ?_
    refine r_iconst 806 dL_law_805 rfl ?_
    refine r_cv2 809 dL_law_806 rfl gL_71 rfl (by decide) (sh_0 z _) rfl rfl (Nat.le_of_ble_eq_true rfl) (Nat.le_of_ble_eq_true rfl) rfl ?_
    refine pr_off hRR (inR_toInt _) (by decide) (Or.inl rfl) (fun r c1 L1 hm => ?_)
    refine r_aloadN 810 dL_law_809 rfl rfl ?_
    refine r_aloadN 811 dL_law_810 rfl rfl ?_
    refine r_iloadN 812 dL_law_811 rfl rfl ?_
    refine r_iconst 813 dL_law_812 rfl ?_
    refine r_iadd 814 dL_law_813 rfl ?_
    refine r_ialr (n := z.2.2.1) 815 dL_law_814 (i0 + 1) rfl (by omega) (roL z) (by omega) (by omega) (by omega) ?_
    refine r_aloadN 816 dL_law_815 rfl rfl ?_
    refine r_iloadN 817 dL_law_816 rfl rfl ?_
    refine r_iconst 818 dL_law_817 rfl ?_
    refine r_iadd 819 dL_law_818 rfl ?_
    refine r_ialr (n := z.2.2.1) 820 dL_law_819 (i0 + 2) rfl (by omega) (roL z) (by omega) (by omega) (by omega) ?_
    refine r_ifeqT 827 0 dL_law_820 (by decide) (inR_toInt _) hb ?_
    refine r_iconst 828 dL_law_827 rfl ?_
    refine r_cv2 831 dL_law_828 rfl gL_75 rfl (by decide) (sh_50 z _) rfl rfl (Nat.le_of_ble_eq_true rfl) (Nat.le_of_ble_eq_true rfl) rfl ?_
    refine hm _ _ (fun c2 L2 hR2 => ?_)
    refine r_iceqS 1961 dL_law_831 (by decide) ?_
    exact kk _ _ hR2
  · refine r_ifeqF 801 dL_law_798 rfl 805 (by decide) (inR_toInt _) hb ?_
    refine r_iconst 802 dL_law_801 rfl ?_
    refine r_goto 806 dL_law_802 (by decide) ?_
    refine r_cv2 809 dL_law_806 rfl gL_71 rfl (by decide) (sh_0 z _) rfl rfl (Nat.le_of_ble_eq_true rfl) (Nat.le_of_ble_eq_true rfl) rfl ?_
    refine pr_off hRR (inR_toInt _) (by decide) (Or.inr rfl) (fun r c1 L1 hm => ?_)
    refine r_aloadN 810 dL_law_809 rfl rfl ?_
    refine r_aloadN 811 dL_law_810 rfl rfl ?_
    refine r_iloadN 812 dL_law_811 rfl rfl ?_
    refine r_iconst 813 dL_law_812 rfl ?_
    refine r_iadd 814 dL_law_813 rfl ?_
    refine r_ialr (n := z.2.2.1) 815 dL_law_814 (i0 + 1) rfl (by omega) (roL z) (by omega) (by omega) (by omega) ?_
    refine r_aloadN 816 dL_law_815 rfl rfl ?_
    refine r_iloadN 817 dL_law_816 rfl rfl ?_
    refine r_iconst 818 dL_law_817 rfl ?_
    refine r_iadd 819 dL_law_818 rfl ?_
    refine r_ialr (n := z.2.2.1) 820 dL_law_819 (i0 + 2) rfl (by omega) (roL z) (by omega) (by omega) (by omega) ?_
    refine r_ifeqF 823 dL_law_820 rfl 827 (by decide) (inR_toInt _) hb ?_
    refine r_iconst 824 dL_law_823 rfl ?_
    refine r_goto 828 dL_law_824 (by decide) ?_
    refine r_cv2 831 dL_law_828 rfl gL_75 rfl (by decide) (sh_50 z _) rfl rfl (Nat.le_of_ble_eq_true rfl) (Nat.le_of_ble_eq_true rfl) rfl ?_
    refine hm _ _ (fun c2 L2 hR2 => ?_)
    refine r_iceqS 1961 dL_law_831 (by decide) ?_
    exact kk _ _ hR2
theorem la_13 {z : xZ} {d : Nat} {Q : tQ} {c : tC} {L : tL} {i0 : Nat} (hz : zF z) (hN : z.2.2.1 ≤ 3072) (hi : i0 + 6 ≤ z.2.2.1) (hRR : RR c L) (kk : ∀ c2 L2, RR c2 L2 → En z (d + 20 + 1) ML_law Q 1961 [some (.ref (z.2.1 0)), some (.ref (xad z 0 0)), some (.ref (xad z 50 0)), some (.int (iI (i0 : Int)))] [] c2 L2) : En z (d + 20 + 1) ML_law Q 836 [some (.ref (z.2.1 0)), some (.ref (xad z 0 0)), some (.ref (xad z 50 0)), some (.int (iI (i0 : Int)))] [] c L := by
  refine r_aloadN 837 dL_law_836 rfl rfl ?_
  refine r_aloadN 838 dL_law_837 rfl rfl ?_
  refine r_iloadN 839 dL_law_838 rfl rfl ?_
  refine r_iconst 840 dL_law_839 rfl ?_
  refine r_iadd 841 dL_law_840 rfl ?_
  refine r_ialr (n := z.2.2.1) 842 dL_law_841 (i0 + 1) rfl (by omega) (roL z) (by omega) (by omega) (by omega) ?_
  refine r_aloadN 843 dL_law_842 rfl rfl ?_
  refine r_iloadN 844 dL_law_843 rfl rfl ?_
  refine r_iconst 845 dL_law_844 rfl ?_
  refine r_iadd 846 dL_law_845 rfl ?_
  refine r_ialr (n := z.2.2.1) 847 dL_law_846 (i0 + 2) rfl (by omega) (roL z) (by omega) (by omega) (by omega) ?_
  refine r_cv2 850 dL_law_847 rfl gL_76 rfl (by decide) (sh_0 z _) rfl rfl (Nat.le_of_ble_eq_true rfl) (Nat.le_of_ble_eq_true rfl) rfl ?_
  refine pr_size hRR (inR_toInt _) (inR_toInt _) (fun r c1 L1 hm => ?_)
  refine r_aloadN 851 dL_law_850 rfl rfl ?_
  refine r_aloadN 852 dL_law_851 rfl rfl ?_
  refine r_iloadN 853 dL_law_852 rfl rfl ?_
  refine r_iconst 854 dL_law_853 rfl ?_
  refine r_iadd 855 dL_law_854 rfl ?_
  refine r_ialr (n := z.2.2.1) 856 dL_law_855 (i0 + 1) rfl (by omega) (roL z) (by omega) (by omega) (by omega) ?_
  refine r_aloadN 857 dL_law_856 rfl rfl ?_
  refine r_iloadN 858 dL_law_857 rfl rfl ?_
  refine r_iconst 859 dL_law_858 rfl ?_
  refine r_iadd 860 dL_law_859 rfl ?_
  refine r_ialr (n := z.2.2.1) 861 dL_law_860 (i0 + 2) rfl (by omega) (roL z) (by omega) (by omega) (by omega) ?_
  refine r_cv2 864 dL_law_861 rfl gL_79 rfl (by decide) (sh_50 z _) rfl rfl (Nat.le_of_ble_eq_true rfl) (Nat.le_of_ble_eq_true rfl) rfl ?_
  refine hm _ _ (fun c2 L2 hR2 => ?_)
  refine r_iceqS 1961 dL_law_864 (by decide) ?_
  exact kk _ _ hR2
theorem la_14 {z : xZ} {d : Nat} {Q : tQ} {c : tC} {L : tL} {i0 : Nat} (hz : zF z) (hN : z.2.2.1 ≤ 3072) (hi : i0 + 6 ≤ z.2.2.1) (hRR : RR c L) (kk : ∀ c2 L2, RR c2 L2 → En z (d + 20 + 1) ML_law Q 1961 [some (.ref (z.2.1 0)), some (.ref (xad z 0 0)), some (.ref (xad z 50 0)), some (.int (iI (i0 : Int)))] [] c2 L2) : En z (d + 20 + 1) ML_law Q 869 [some (.ref (z.2.1 0)), some (.ref (xad z 0 0)), some (.ref (xad z 50 0)), some (.int (iI (i0 : Int)))] [] c L := by
  refine r_aloadN 870 dL_law_869 rfl rfl ?_
  refine r_aloadN 871 dL_law_870 rfl rfl ?_
  refine r_iloadN 872 dL_law_871 rfl rfl ?_
  refine r_iconst 873 dL_law_872 rfl ?_
  refine r_iadd 874 dL_law_873 rfl ?_
  refine r_ialr (n := z.2.2.1) 875 dL_law_874 (i0 + 1) rfl (by omega) (roL z) (by omega) (by omega) (by omega) ?_
  refine r_aloadN 876 dL_law_875 rfl rfl ?_
  refine r_iloadN 877 dL_law_876 rfl rfl ?_
  refine r_iconst 878 dL_law_877 rfl ?_
  refine r_iadd 879 dL_law_878 rfl ?_
  refine r_ialr (n := z.2.2.1) 880 dL_law_879 (i0 + 2) rfl (by omega) (roL z) (by omega) (by omega) (by omega) ?_
  refine r_cv2 883 dL_law_880 rfl gL_80 rfl (by decide) (sh_0 z _) rfl rfl (Nat.le_of_ble_eq_true rfl) (Nat.le_of_ble_eq_true rfl) rfl ?_
  refine pr_weather hRR (inR_toInt _) (inR_toInt _) (fun r c1 L1 hm => ?_)
  refine r_aloadN 884 dL_law_883 rfl rfl ?_
  refine r_aloadN 885 dL_law_884 rfl rfl ?_
  refine r_iloadN 886 dL_law_885 rfl rfl ?_
  refine r_iconst 887 dL_law_886 rfl ?_
  refine r_iadd 888 dL_law_887 rfl ?_
  refine r_ialr (n := z.2.2.1) 889 dL_law_888 (i0 + 1) rfl (by omega) (roL z) (by omega) (by omega) (by omega) ?_
  refine r_aloadN 890 dL_law_889 rfl rfl ?_
  refine r_iloadN 891 dL_law_890 rfl rfl ?_
  refine r_iconst 892 dL_law_891 rfl ?_
  refine r_iadd 893 dL_law_892 rfl ?_
  refine r_ialr (n := z.2.2.1) 894 dL_law_893 (i0 + 2) rfl (by omega) (roL z) (by omega) (by omega) (by omega) ?_
  refine r_cv2 897 dL_law_894 rfl gL_83 rfl (by decide) (sh_50 z _) rfl rfl (Nat.le_of_ble_eq_true rfl) (Nat.le_of_ble_eq_true rfl) rfl ?_
  refine hm _ _ (fun c2 L2 hR2 => ?_)
  refine r_iceqS 1961 dL_law_897 (by decide) ?_
  exact kk _ _ hR2
theorem la_15 {z : xZ} {d : Nat} {Q : tQ} {c : tC} {L : tL} {i0 : Nat} (hz : zF z) (hN : z.2.2.1 ≤ 3072) (hi : i0 + 6 ≤ z.2.2.1) (hRR : RR c L) (kk : ∀ c2 L2, RR c2 L2 → En z (d + 20 + 1) ML_law Q 1961 [some (.ref (z.2.1 0)), some (.ref (xad z 0 0)), some (.ref (xad z 50 0)), some (.int (iI (i0 : Int)))] [] c2 L2) : En z (d + 20 + 1) ML_law Q 902 [some (.ref (z.2.1 0)), some (.ref (xad z 0 0)), some (.ref (xad z 50 0)), some (.int (iI (i0 : Int)))] [] c L := by
  refine r_aloadN 903 dL_law_902 rfl rfl ?_
  refine r_aloadN 904 dL_law_903 rfl rfl ?_
  refine r_iloadN 905 dL_law_904 rfl rfl ?_
  refine r_iconst 906 dL_law_905 rfl ?_
  refine r_iadd 907 dL_law_906 rfl ?_
  refine r_ialr (n := z.2.2.1) 908 dL_law_907 (i0 + 1) rfl (by omega) (roL z) (by omega) (by omega) (by omega) ?_
  refine r_cv1 911 dL_law_908 rfl gL_84 rfl (by decide) (sh_0 z _) rfl rfl (Nat.le_of_ble_eq_true rfl) (Nat.le_of_ble_eq_true rfl) rfl ?_
  refine pr_pass hRR (inR_toInt _) (fun r c1 L1 hm => ?_)
  refine r_aloadN 912 dL_law_911 rfl rfl ?_
  refine r_aloadN 913 dL_law_912 rfl rfl ?_
  refine r_iloadN 914 dL_law_913 rfl rfl ?_
  refine r_iconst 915 dL_law_914 rfl ?_
  refine r_iadd 916 dL_law_915 rfl ?_
  refine r_ialr (n := z.2.2.1) 917 dL_law_916 (i0 + 1) rfl (by omega) (roL z) (by omega) (by omega) (by omega) ?_
  refine r_cv1 920 dL_law_917 rfl gL_87 rfl (by decide) (sh_50 z _) rfl rfl (Nat.le_of_ble_eq_true rfl) (Nat.le_of_ble_eq_true rfl) rfl ?_
  refine hm _ _ (fun c2 L2 hR2 => ?_)
  refine r_iceqS 1961 dL_law_920 (by decide) ?_
  exact kk _ _ hR2
theorem la_16 {z : xZ} {d : Nat} {Q : tQ} {c : tC} {L : tL} {i0 : Nat} (hz : zF z) (hN : z.2.2.1 ≤ 3072) (hi : i0 + 6 ≤ z.2.2.1) (hRR : RR c L) (kk : ∀ c2 L2, RR c2 L2 → En z (d + 20 + 1) ML_law Q 1961 [some (.ref (z.2.1 0)), some (.ref (xad z 0 0)), some (.ref (xad z 50 0)), some (.int (iI (i0 : Int)))] [] c2 L2) : En z (d + 20 + 1) ML_law Q 925 [some (.ref (z.2.1 0)), some (.ref (xad z 0 0)), some (.ref (xad z 50 0)), some (.int (iI (i0 : Int)))] [] c L := by
  refine r_aloadN 926 dL_law_925 rfl rfl ?_
  refine r_aloadN 927 dL_law_926 rfl rfl ?_
  refine r_iloadN 928 dL_law_927 rfl rfl ?_
  refine r_iconst 929 dL_law_928 rfl ?_
  refine r_iadd 930 dL_law_929 rfl ?_
  refine r_ialr (n := z.2.2.1) 931 dL_law_930 (i0 + 1) rfl (by omega) (roL z) (by omega) (by omega) (by omega) ?_
  refine r_cv1 934 dL_law_931 rfl gL_88 rfl (by decide) (sh_0 z _) rfl rfl (Nat.le_of_ble_eq_true rfl) (Nat.le_of_ble_eq_true rfl) rfl ?_
  refine pr_laws hRR (inR_toInt _) hz (fun r c1 L1 hm => ?_)
  refine r_aloadN 935 dL_law_934 rfl rfl ?_
  refine r_aloadN 936 dL_law_935 rfl rfl ?_
  refine r_iloadN 937 dL_law_936 rfl rfl ?_
  refine r_iconst 938 dL_law_937 rfl ?_
  refine r_iadd 939 dL_law_938 rfl ?_
  refine r_ialr (n := z.2.2.1) 940 dL_law_939 (i0 + 1) rfl (by omega) (roL z) (by omega) (by omega) (by omega) ?_
  refine r_cv1 943 dL_law_940 rfl gL_91 rfl (by decide) (sh_50 z _) rfl rfl (Nat.le_of_ble_eq_true rfl) (Nat.le_of_ble_eq_true rfl) rfl ?_
  refine hm _ _ (fun c2 L2 hR2 => ?_)
  refine r_iceqS 1961 dL_law_943 (by decide) ?_
  exact kk _ _ hR2
theorem la_17 {z : xZ} {d : Nat} {Q : tQ} {c : tC} {L : tL} {i0 : Nat} (hz : zF z) (hN : z.2.2.1 ≤ 3072) (hi : i0 + 6 ≤ z.2.2.1) (hRR : RR c L) (kk : ∀ c2 L2, RR c2 L2 → En z (d + 20 + 1) ML_law Q 1961 [some (.ref (z.2.1 0)), some (.ref (xad z 0 0)), some (.ref (xad z 50 0)), some (.int (iI (i0 : Int)))] [] c2 L2) : En z (d + 20 + 1) ML_law Q 948 [some (.ref (z.2.1 0)), some (.ref (xad z 0 0)), some (.ref (xad z 50 0)), some (.int (iI (i0 : Int)))] [] c L := by
  refine r_aloadN 949 dL_law_948 rfl rfl ?_
  refine r_aloadN 950 dL_law_949 rfl rfl ?_
  refine r_iloadN 951 dL_law_950 rfl rfl ?_
  refine r_iconst 952 dL_law_951 rfl ?_
  refine r_iadd 953 dL_law_952 rfl ?_
  refine r_ialr (n := z.2.2.1) 954 dL_law_953 (i0 + 1) rfl (by omega) (roL z) (by omega) (by omega) (by omega) ?_
  refine r_cv1 957 dL_law_954 rfl gL_92 rfl (by decide) (sh_0 z _) rfl rfl (Nat.le_of_ble_eq_true rfl) (Nat.le_of_ble_eq_true rfl) rfl ?_
  refine pr_law hRR (inR_toInt _) (fun r c1 L1 hm => ?_)
  refine r_aloadN 958 dL_law_957 rfl rfl ?_
  refine r_aloadN 959 dL_law_958 rfl rfl ?_
  refine r_iloadN 960 dL_law_959 rfl rfl ?_
  refine r_iconst 961 dL_law_960 rfl ?_
  refine r_iadd 962 dL_law_961 rfl ?_
  refine r_ialr (n := z.2.2.1) 963 dL_law_962 (i0 + 1) rfl (by omega) (roL z) (by omega) (by omega) (by omega) ?_
  refine r_cv1 966 dL_law_963 rfl gL_95 rfl (by decide) (sh_50 z _) rfl rfl (Nat.le_of_ble_eq_true rfl) (Nat.le_of_ble_eq_true rfl) rfl ?_
  refine hm _ _ (fun c2 L2 hR2 => ?_)
  refine r_iceqS 1961 dL_law_966 (by decide) ?_
  exact kk _ _ hR2
theorem la_18 {z : xZ} {d : Nat} {Q : tQ} {c : tC} {L : tL} {i0 : Nat} (hz : zF z) (hN : z.2.2.1 ≤ 3072) (hi : i0 + 6 ≤ z.2.2.1) (hRR : RR c L) (kk : ∀ c2 L2, RR c2 L2 → En z (d + 20 + 1) ML_law Q 1961 [some (.ref (z.2.1 0)), some (.ref (xad z 0 0)), some (.ref (xad z 50 0)), some (.int (iI (i0 : Int)))] [] c2 L2) : En z (d + 20 + 1) ML_law Q 971 [some (.ref (z.2.1 0)), some (.ref (xad z 0 0)), some (.ref (xad z 50 0)), some (.int (iI (i0 : Int)))] [] c L := by
  refine r_aloadN 972 dL_law_971 rfl rfl ?_
  refine r_aloadN 973 dL_law_972 rfl rfl ?_
  refine r_iloadN 974 dL_law_973 rfl rfl ?_
  refine r_iconst 975 dL_law_974 rfl ?_
  refine r_iadd 976 dL_law_975 rfl ?_
  refine r_ialr (n := z.2.2.1) 977 dL_law_976 (i0 + 1) rfl (by omega) (roL z) (by omega) (by omega) (by omega) ?_
  refine r_cv1 980 dL_law_977 rfl gL_96 rfl (by decide) (sh_0 z _) rfl rfl (Nat.le_of_ble_eq_true rfl) (Nat.le_of_ble_eq_true rfl) rfl ?_
  refine pr_plan hRR (inR_toInt _) hz (fun r c1 L1 hm => ?_)
  refine r_aloadN 981 dL_law_980 rfl rfl ?_
  refine r_aloadN 982 dL_law_981 rfl rfl ?_
  refine r_iloadN 983 dL_law_982 rfl rfl ?_
  refine r_iconst 984 dL_law_983 rfl ?_
  refine r_iadd 985 dL_law_984 rfl ?_
  refine r_ialr (n := z.2.2.1) 986 dL_law_985 (i0 + 1) rfl (by omega) (roL z) (by omega) (by omega) (by omega) ?_
  refine r_cv1 989 dL_law_986 rfl gL_99 rfl (by decide) (sh_50 z _) rfl rfl (Nat.le_of_ble_eq_true rfl) (Nat.le_of_ble_eq_true rfl) rfl ?_
  refine hm _ _ (fun c2 L2 hR2 => ?_)
  refine r_iceqS 1961 dL_law_989 (by decide) ?_
  exact kk _ _ hR2
theorem la_19 {z : xZ} {d : Nat} {Q : tQ} {c : tC} {L : tL} {i0 : Nat} (hz : zF z) (hN : z.2.2.1 ≤ 3072) (hi : i0 + 6 ≤ z.2.2.1) (hRR : RR c L) (kk : ∀ c2 L2, RR c2 L2 → En z (d + 20 + 1) ML_law Q 1961 [some (.ref (z.2.1 0)), some (.ref (xad z 0 0)), some (.ref (xad z 50 0)), some (.int (iI (i0 : Int)))] [] c2 L2) : En z (d + 20 + 1) ML_law Q 994 [some (.ref (z.2.1 0)), some (.ref (xad z 0 0)), some (.ref (xad z 50 0)), some (.int (iI (i0 : Int)))] [] c L := by
  refine r_aloadN 995 dL_law_994 rfl rfl ?_
  refine r_cv0 998 dL_law_995 rfl gL_100 rfl (by decide) (sh_0 z _) rfl rfl (Nat.le_of_ble_eq_true rfl) (Nat.le_of_ble_eq_true rfl) rfl ?_
  refine pr_fault hRR  (fun r c1 L1 hm => ?_)
  refine r_aloadN 999 dL_law_998 rfl rfl ?_
  refine r_cv0 1002 dL_law_999 rfl gL_104 rfl (by decide) (sh_50 z _) rfl rfl (Nat.le_of_ble_eq_true rfl) (Nat.le_of_ble_eq_true rfl) rfl ?_
  refine hm _ _ (fun c2 L2 hR2 => ?_)
  refine r_iceqS 1961 dL_law_1002 (by decide) ?_
  exact kk _ _ hR2
theorem la_20 {z : xZ} {d : Nat} {Q : tQ} {c : tC} {L : tL} {i0 : Nat} (hz : zF z) (hN : z.2.2.1 ≤ 3072) (hi : i0 + 6 ≤ z.2.2.1) (hRR : RR c L) (kk : ∀ c2 L2, RR c2 L2 → En z (d + 20 + 1) ML_law Q 1961 [some (.ref (z.2.1 0)), some (.ref (xad z 0 0)), some (.ref (xad z 50 0)), some (.int (iI (i0 : Int)))] [] c2 L2) : En z (d + 20 + 1) ML_law Q 1007 [some (.ref (z.2.1 0)), some (.ref (xad z 0 0)), some (.ref (xad z 50 0)), some (.int (iI (i0 : Int)))] [] c L := by
  refine r_aloadN 1008 dL_law_1007 rfl rfl ?_
  refine r_aloadN 1009 dL_law_1008 rfl rfl ?_
  refine r_iloadN 1010 dL_law_1009 rfl rfl ?_
  refine r_iconst 1011 dL_law_1010 rfl ?_
  refine r_iadd 1012 dL_law_1011 rfl ?_
  refine r_ialr (n := z.2.2.1) 1013 dL_law_1012 (i0 + 1) rfl (by omega) (roL z) (by omega) (by omega) (by omega) ?_
  refine r_cv1 1016 dL_law_1013 rfl gL_105 rfl (by decide) (sh_0 z _) rfl rfl (Nat.le_of_ble_eq_true rfl) (Nat.le_of_ble_eq_true rfl) rfl ?_
  refine pr_force hRR (inR_toInt _) (fun r c1 L1 hm => ?_)
  refine r_aloadN 1017 dL_law_1016 rfl rfl ?_
  refine r_aloadN 1018 dL_law_1017 rfl rfl ?_
  refine r_iloadN 1019 dL_law_1018 rfl rfl ?_
  refine r_iconst 1020 dL_law_1019 rfl ?_
  refine r_iadd 1021 dL_law_1020 rfl ?_
  refine r_ialr (n := z.2.2.1) 1022 dL_law_1021 (i0 + 1) rfl (by omega) (roL z) (by omega) (by omega) (by omega) ?_
  refine r_cv1 1025 dL_law_1022 rfl gL_108 rfl (by decide) (sh_50 z _) rfl rfl (Nat.le_of_ble_eq_true rfl) (Nat.le_of_ble_eq_true rfl) rfl ?_
  refine hm _ _ (fun c2 L2 hR2 => ?_)
  refine r_iceqS 1961 dL_law_1025 (by decide) ?_
  exact kk _ _ hR2
theorem la_21 {z : xZ} {d : Nat} {Q : tQ} {c : tC} {L : tL} {i0 : Nat} (hz : zF z) (hN : z.2.2.1 ≤ 3072) (hi : i0 + 6 ≤ z.2.2.1) (hRR : RR c L) (kk : ∀ c2 L2, RR c2 L2 → En z (d + 20 + 1) ML_law Q 1961 [some (.ref (z.2.1 0)), some (.ref (xad z 0 0)), some (.ref (xad z 50 0)), some (.int (iI (i0 : Int)))] [] c2 L2) : En z (d + 20 + 1) ML_law Q 1030 [some (.ref (z.2.1 0)), some (.ref (xad z 0 0)), some (.ref (xad z 50 0)), some (.int (iI (i0 : Int)))] [] c L := by
  refine r_aloadN 1031 dL_law_1030 rfl rfl ?_
  refine r_aloadN 1032 dL_law_1031 rfl rfl ?_
  refine r_iloadN 1033 dL_law_1032 rfl rfl ?_
  refine r_iconst 1034 dL_law_1033 rfl ?_
  refine r_iadd 1035 dL_law_1034 rfl ?_
  refine r_ialr (n := z.2.2.1) 1036 dL_law_1035 (i0 + 1) rfl (by omega) (roL z) (by omega) (by omega) (by omega) ?_
  refine r_aloadN 1037 dL_law_1036 rfl rfl ?_
  refine r_iloadN 1038 dL_law_1037 rfl rfl ?_
  refine r_iconst 1039 dL_law_1038 rfl ?_
  refine r_iadd 1040 dL_law_1039 rfl ?_
  refine r_ialr (n := z.2.2.1) 1041 dL_law_1040 (i0 + 2) rfl (by omega) (roL z) (by omega) (by omega) (by omega) ?_
  refine r_cv2 1044 dL_law_1041 rfl gL_109 rfl (by decide) (sh_0 z _) rfl rfl (Nat.le_of_ble_eq_true rfl) (Nat.le_of_ble_eq_true rfl) rfl ?_
  refine pr_sounds hRR (inR_toInt _) (inR_toInt _) (fun r c1 L1 hm => ?_)
  refine r_aloadN 1045 dL_law_1044 rfl rfl ?_
  refine r_aloadN 1046 dL_law_1045 rfl rfl ?_
  refine r_iloadN 1047 dL_law_1046 rfl rfl ?_
  refine r_iconst 1048 dL_law_1047 rfl ?_
  refine r_iadd 1049 dL_law_1048 rfl ?_
  refine r_ialr (n := z.2.2.1) 1050 dL_law_1049 (i0 + 1) rfl (by omega) (roL z) (by omega) (by omega) (by omega) ?_
  refine r_aloadN 1051 dL_law_1050 rfl rfl ?_
  refine r_iloadN 1052 dL_law_1051 rfl rfl ?_
  refine r_iconst 1053 dL_law_1052 rfl ?_
  refine r_iadd 1054 dL_law_1053 rfl ?_
  refine r_ialr (n := z.2.2.1) 1055 dL_law_1054 (i0 + 2) rfl (by omega) (roL z) (by omega) (by omega) (by omega) ?_
  refine r_cv2 1058 dL_law_1055 rfl gL_112 rfl (by decide) (sh_50 z _) rfl rfl (Nat.le_of_ble_eq_true rfl) (Nat.le_of_ble_eq_true rfl) rfl ?_
  refine hm _ _ (fun c2 L2 hR2 => ?_)
  refine r_iceqS 1961 dL_law_1058 (by decide) ?_
  exact kk _ _ hR2
theorem la_22 {z : xZ} {d : Nat} {Q : tQ} {c : tC} {L : tL} {i0 : Nat} (hz : zF z) (hN : z.2.2.1 ≤ 3072) (hi : i0 + 6 ≤ z.2.2.1) (hRR : RR c L) (kk : ∀ c2 L2, RR c2 L2 → En z (d + 20 + 1) ML_law Q 1961 [some (.ref (z.2.1 0)), some (.ref (xad z 0 0)), some (.ref (xad z 50 0)), some (.int (iI (i0 : Int)))] [] c2 L2) : En z (d + 20 + 1) ML_law Q 1063 [some (.ref (z.2.1 0)), some (.ref (xad z 0 0)), some (.ref (xad z 50 0)), some (.int (iI (i0 : Int)))] [] c L := by
  refine r_aloadN 1064 dL_law_1063 rfl rfl ?_
  refine r_aloadN 1065 dL_law_1064 rfl rfl ?_
  refine r_iloadN 1066 dL_law_1065 rfl rfl ?_
  refine r_iconst 1067 dL_law_1066 rfl ?_
  refine r_iadd 1068 dL_law_1067 rfl ?_
  refine r_ialr (n := z.2.2.1) 1069 dL_law_1068 (i0 + 1) rfl (by omega) (roL z) (by omega) (by omega) (by omega) ?_
  refine r_aloadN 1070 dL_law_1069 rfl rfl ?_
  refine r_iloadN 1071 dL_law_1070 rfl rfl ?_
  refine r_iconst 1072 dL_law_1071 rfl ?_
  refine r_iadd 1073 dL_law_1072 rfl ?_
  refine r_ialr (n := z.2.2.1) 1074 dL_law_1073 (i0 + 2) rfl (by omega) (roL z) (by omega) (by omega) (by omega) ?_
  refine r_cv2 1077 dL_law_1074 rfl gL_113 rfl (by decide) (sh_0 z _) rfl rfl (Nat.le_of_ble_eq_true rfl) (Nat.le_of_ble_eq_true rfl) rfl ?_
  refine pr_reach hRR (inR_toInt _) (inR_toInt _) (fun r c1 L1 hm => ?_)
  refine r_aloadN 1078 dL_law_1077 rfl rfl ?_
  refine r_aloadN 1079 dL_law_1078 rfl rfl ?_
  refine r_iloadN 1080 dL_law_1079 rfl rfl ?_
  refine r_iconst 1081 dL_law_1080 rfl ?_
  refine r_iadd 1082 dL_law_1081 rfl ?_
  refine r_ialr (n := z.2.2.1) 1083 dL_law_1082 (i0 + 1) rfl (by omega) (roL z) (by omega) (by omega) (by omega) ?_
  refine r_aloadN 1084 dL_law_1083 rfl rfl ?_
  refine r_iloadN 1085 dL_law_1084 rfl rfl ?_
  refine r_iconst 1086 dL_law_1085 rfl ?_
  refine r_iadd 1087 dL_law_1086 rfl ?_
  refine r_ialr (n := z.2.2.1) 1088 dL_law_1087 (i0 + 2) rfl (by omega) (roL z) (by omega) (by omega) (by omega) ?_
  refine r_cv2 1091 dL_law_1088 rfl gL_116 rfl (by decide) (sh_50 z _) rfl rfl (Nat.le_of_ble_eq_true rfl) (Nat.le_of_ble_eq_true rfl) rfl ?_
  refine hm _ _ (fun c2 L2 hR2 => ?_)
  refine r_iceqS 1961 dL_law_1091 (by decide) ?_
  exact kk _ _ hR2
theorem la_23 {z : xZ} {d : Nat} {Q : tQ} {c : tC} {L : tL} {i0 : Nat} (hz : zF z) (hN : z.2.2.1 ≤ 3072) (hi : i0 + 6 ≤ z.2.2.1) (hRR : RR c L) (kk : ∀ c2 L2, RR c2 L2 → En z (d + 20 + 1) ML_law Q 1961 [some (.ref (z.2.1 0)), some (.ref (xad z 0 0)), some (.ref (xad z 50 0)), some (.int (iI (i0 : Int)))] [] c2 L2) : En z (d + 20 + 1) ML_law Q 1096 [some (.ref (z.2.1 0)), some (.ref (xad z 0 0)), some (.ref (xad z 50 0)), some (.int (iI (i0 : Int)))] [] c L := by
  refine r_aloadN 1097 dL_law_1096 rfl rfl ?_
  refine r_aloadN 1098 dL_law_1097 rfl rfl ?_
  refine r_iloadN 1099 dL_law_1098 rfl rfl ?_
  refine r_iconst 1100 dL_law_1099 rfl ?_
  refine r_iadd 1101 dL_law_1100 rfl ?_
  refine r_ialr (n := z.2.2.1) 1102 dL_law_1101 (i0 + 1) rfl (by omega) (roL z) (by omega) (by omega) (by omega) ?_
  refine r_aloadN 1103 dL_law_1102 rfl rfl ?_
  refine r_iloadN 1104 dL_law_1103 rfl rfl ?_
  refine r_iconst 1105 dL_law_1104 rfl ?_
  refine r_iadd 1106 dL_law_1105 rfl ?_
  refine r_ialr (n := z.2.2.1) 1107 dL_law_1106 (i0 + 2) rfl (by omega) (roL z) (by omega) (by omega) (by omega) ?_
  refine r_cv2 1110 dL_law_1107 rfl gL_117 rfl (by decide) (sh_0 z _) rfl rfl (Nat.le_of_ble_eq_true rfl) (Nat.le_of_ble_eq_true rfl) rfl ?_
  refine pr_needs hRR (inR_toInt _) (inR_toInt _) (fun r c1 L1 hm => ?_)
  refine r_aloadN 1111 dL_law_1110 rfl rfl ?_
  refine r_aloadN 1112 dL_law_1111 rfl rfl ?_
  refine r_iloadN 1113 dL_law_1112 rfl rfl ?_
  refine r_iconst 1114 dL_law_1113 rfl ?_
  refine r_iadd 1115 dL_law_1114 rfl ?_
  refine r_ialr (n := z.2.2.1) 1116 dL_law_1115 (i0 + 1) rfl (by omega) (roL z) (by omega) (by omega) (by omega) ?_
  refine r_aloadN 1117 dL_law_1116 rfl rfl ?_
  refine r_iloadN 1118 dL_law_1117 rfl rfl ?_
  refine r_iconst 1119 dL_law_1118 rfl ?_
  refine r_iadd 1120 dL_law_1119 rfl ?_
  refine r_ialr (n := z.2.2.1) 1121 dL_law_1120 (i0 + 2) rfl (by omega) (roL z) (by omega) (by omega) (by omega) ?_
  refine r_cv2 1124 dL_law_1121 rfl gL_120 rfl (by decide) (sh_50 z _) rfl rfl (Nat.le_of_ble_eq_true rfl) (Nat.le_of_ble_eq_true rfl) rfl ?_
  refine hm _ _ (fun c2 L2 hR2 => ?_)
  refine r_iceqS 1961 dL_law_1124 (by decide) ?_
  exact kk _ _ hR2
theorem la_24 {z : xZ} {d : Nat} {Q : tQ} {c : tC} {L : tL} {i0 : Nat} (hz : zF z) (hN : z.2.2.1 ≤ 3072) (hi : i0 + 6 ≤ z.2.2.1) (hRR : RR c L) (kk : ∀ c2 L2, RR c2 L2 → En z (d + 20 + 1) ML_law Q 1961 [some (.ref (z.2.1 0)), some (.ref (xad z 0 0)), some (.ref (xad z 50 0)), some (.int (iI (i0 : Int)))] [] c2 L2) : En z (d + 20 + 1) ML_law Q 1129 [some (.ref (z.2.1 0)), some (.ref (xad z 0 0)), some (.ref (xad z 50 0)), some (.int (iI (i0 : Int)))] [] c L := by
  refine r_aloadN 1130 dL_law_1129 rfl rfl ?_
  refine r_aloadN 1131 dL_law_1130 rfl rfl ?_
  refine r_iloadN 1132 dL_law_1131 rfl rfl ?_
  refine r_iconst 1133 dL_law_1132 rfl ?_
  refine r_iadd 1134 dL_law_1133 rfl ?_
  refine r_ialr (n := z.2.2.1) 1135 dL_law_1134 (i0 + 1) rfl (by omega) (roL z) (by omega) (by omega) (by omega) ?_
  refine r_aloadN 1136 dL_law_1135 rfl rfl ?_
  refine r_iloadN 1137 dL_law_1136 rfl rfl ?_
  refine r_iconst 1138 dL_law_1137 rfl ?_
  refine r_iadd 1139 dL_law_1138 rfl ?_
  refine r_ialr (n := z.2.2.1) 1140 dL_law_1139 (i0 + 2) rfl (by omega) (roL z) (by omega) (by omega) (by omega) ?_
  refine r_cv2 1143 dL_law_1140 rfl gL_121 rfl (by decide) (sh_0 z _) rfl rfl (Nat.le_of_ble_eq_true rfl) (Nat.le_of_ble_eq_true rfl) rfl ?_
  refine pr_hears hRR (inR_toInt _) (inR_toInt _) (fun r c1 L1 hm => ?_)
  refine r_aloadN 1144 dL_law_1143 rfl rfl ?_
  refine r_aloadN 1145 dL_law_1144 rfl rfl ?_
  refine r_iloadN 1146 dL_law_1145 rfl rfl ?_
  refine r_iconst 1147 dL_law_1146 rfl ?_
  refine r_iadd 1148 dL_law_1147 rfl ?_
  refine r_ialr (n := z.2.2.1) 1149 dL_law_1148 (i0 + 1) rfl (by omega) (roL z) (by omega) (by omega) (by omega) ?_
  refine r_aloadN 1150 dL_law_1149 rfl rfl ?_
  refine r_iloadN 1151 dL_law_1150 rfl rfl ?_
  refine r_iconst 1152 dL_law_1151 rfl ?_
  refine r_iadd 1153 dL_law_1152 rfl ?_
  refine r_ialr (n := z.2.2.1) 1154 dL_law_1153 (i0 + 2) rfl (by omega) (roL z) (by omega) (by omega) (by omega) ?_
  refine r_cv2 1157 dL_law_1154 rfl gL_124 rfl (by decide) (sh_50 z _) rfl rfl (Nat.le_of_ble_eq_true rfl) (Nat.le_of_ble_eq_true rfl) rfl ?_
  refine hm _ _ (fun c2 L2 hR2 => ?_)
  refine r_iceqS 1961 dL_law_1157 (by decide) ?_
  exact kk _ _ hR2
theorem la_25 {z : xZ} {d : Nat} {Q : tQ} {c : tC} {L : tL} {i0 : Nat} (hz : zF z) (hN : z.2.2.1 ≤ 3072) (hi : i0 + 6 ≤ z.2.2.1) (hRR : RR c L) (kk : ∀ c2 L2, RR c2 L2 → En z (d + 20 + 1) ML_law Q 1961 [some (.ref (z.2.1 0)), some (.ref (xad z 0 0)), some (.ref (xad z 50 0)), some (.int (iI (i0 : Int)))] [] c2 L2) : En z (d + 20 + 1) ML_law Q 1162 [some (.ref (z.2.1 0)), some (.ref (xad z 0 0)), some (.ref (xad z 50 0)), some (.int (iI (i0 : Int)))] [] c L := by
  refine r_aloadN 1163 dL_law_1162 rfl rfl ?_
  refine r_aloadN 1164 dL_law_1163 rfl rfl ?_
  refine r_iloadN 1165 dL_law_1164 rfl rfl ?_
  refine r_iconst 1166 dL_law_1165 rfl ?_
  refine r_iadd 1167 dL_law_1166 rfl ?_
  refine r_ialr (n := z.2.2.1) 1168 dL_law_1167 (i0 + 1) rfl (by omega) (roL z) (by omega) (by omega) (by omega) ?_
  refine r_aloadN 1169 dL_law_1168 rfl rfl ?_
  refine r_iloadN 1170 dL_law_1169 rfl rfl ?_
  refine r_iconst 1171 dL_law_1170 rfl ?_
  refine r_iadd 1172 dL_law_1171 rfl ?_
  refine r_ialr (n := z.2.2.1) 1173 dL_law_1172 (i0 + 2) rfl (by omega) (roL z) (by omega) (by omega) (by omega) ?_
  refine r_cv2 1176 dL_law_1173 rfl gL_125 rfl (by decide) (sh_0 z _) rfl rfl (Nat.le_of_ble_eq_true rfl) (Nat.le_of_ble_eq_true rfl) rfl ?_
  refine pr_loudest hRR (inR_toInt _) (inR_toInt _) (fun r c1 L1 hm => ?_)
  refine r_aloadN 1177 dL_law_1176 rfl rfl ?_
  refine r_aloadN 1178 dL_law_1177 rfl rfl ?_
  refine r_iloadN 1179 dL_law_1178 rfl rfl ?_
  refine r_iconst 1180 dL_law_1179 rfl ?_
  refine r_iadd 1181 dL_law_1180 rfl ?_
  refine r_ialr (n := z.2.2.1) 1182 dL_law_1181 (i0 + 1) rfl (by omega) (roL z) (by omega) (by omega) (by omega) ?_
  refine r_aloadN 1183 dL_law_1182 rfl rfl ?_
  refine r_iloadN 1184 dL_law_1183 rfl rfl ?_
  refine r_iconst 1185 dL_law_1184 rfl ?_
  refine r_iadd 1186 dL_law_1185 rfl ?_
  refine r_ialr (n := z.2.2.1) 1187 dL_law_1186 (i0 + 2) rfl (by omega) (roL z) (by omega) (by omega) (by omega) ?_
  refine r_cv2 1190 dL_law_1187 rfl gL_128 rfl (by decide) (sh_50 z _) rfl rfl (Nat.le_of_ble_eq_true rfl) (Nat.le_of_ble_eq_true rfl) rfl ?_
  refine hm _ _ (fun c2 L2 hR2 => ?_)
  refine r_iceqS 1961 dL_law_1190 (by decide) ?_
  exact kk _ _ hR2
theorem la_26 {z : xZ} {d : Nat} {Q : tQ} {c : tC} {L : tL} {i0 : Nat} (hz : zF z) (hN : z.2.2.1 ≤ 3072) (hi : i0 + 6 ≤ z.2.2.1) (hRR : RR c L) (kk : ∀ c2 L2, RR c2 L2 → En z (d + 20 + 1) ML_law Q 1961 [some (.ref (z.2.1 0)), some (.ref (xad z 0 0)), some (.ref (xad z 50 0)), some (.int (iI (i0 : Int)))] [] c2 L2) : En z (d + 20 + 1) ML_law Q 1195 [some (.ref (z.2.1 0)), some (.ref (xad z 0 0)), some (.ref (xad z 50 0)), some (.int (iI (i0 : Int)))] [] c L := by
  refine r_aloadN 1196 dL_law_1195 rfl rfl ?_
  refine r_aloadN 1197 dL_law_1196 rfl rfl ?_
  refine r_iloadN 1198 dL_law_1197 rfl rfl ?_
  refine r_iconst 1199 dL_law_1198 rfl ?_
  refine r_iadd 1200 dL_law_1199 rfl ?_
  refine r_ialr (n := z.2.2.1) 1201 dL_law_1200 (i0 + 1) rfl (by omega) (roL z) (by omega) (by omega) (by omega) ?_
  refine r_aloadN 1202 dL_law_1201 rfl rfl ?_
  refine r_iloadN 1203 dL_law_1202 rfl rfl ?_
  refine r_iconst 1204 dL_law_1203 rfl ?_
  refine r_iadd 1205 dL_law_1204 rfl ?_
  refine r_ialr (n := z.2.2.1) 1206 dL_law_1205 (i0 + 2) rfl (by omega) (roL z) (by omega) (by omega) (by omega) ?_
  by_cases hb : (z.2.2.2.1 (i0 + 2)).toInt = 0
  · refine r_ifeqT 1213 0 dL_law_1206 (by decide) (inR_toInt _) hb ?_
    refine r_iconst 1214 dL_law_1213 rfl ?_
    refine r_cv2 1217 dL_law_1214 rfl gL_129 rfl (by decide) (sh_0 z _) rfl rfl (Nat.le_of_ble_eq_true rfl) (Nat.le_of_ble_eq_true rfl) rfl ?_
    refine pr_press hRR (inR_toInt _) (by decide) (Or.inl rfl) (fun r c1 L1 hm => ?_)
    refine r_aloadN 1218 dL_law_1217 rfl rfl ?_
    refine r_aloadN 1219 dL_law_1218 rfl rfl ?_
    refine r_iloadN 1220 dL_law_1219 rfl rfl ?_
    refine r_iconst 1221 dL_law_1220 rfl ?_
    refine r_iadd 1222 dL_law_1221 rfl ?_
    refine r_ialr (n := z.2.2.1) 1223 dL_law_1222 (i0 + 1) rfl (by omega) (roL z) (by omega) (by omega) (by omega) ?_
    refine r_aloadN 1224 dL_law_1223 rfl rfl ?_
    refine r_iloadN 1225 dL_law_1224 rfl rfl ?_
    refine r_iconst 1226 dL_law_1225 rfl ?_
    refine r_iadd 1227 dL_law_1226 rfl ?_
    refine r_ialr (n := z.2.2.1) 1228 dL_law_1227 (i0 + 2) rfl (by omega) (roL z) (by omega) (by omega) (by omega) ?_
    refine r_ifeqT 1235 0 dL_law_1228 (by decide) (inR_toInt _) hb ?_
    refine r_iconst 1236 dL_law_1235 rfl ?_
    refine r_cv2 1239 dL_law_1236 rfl gL_132 rfl (by decide) (sh_50 z _) rfl rfl (Nat.le_of_ble_eq_true rfl) (Nat.le_of_ble_eq_true rfl) rfl ?_
    refine hm _ _ (fun c2 L2 hR2 => ?_)
    refine r_iceqS 1961 dL_law_1239 (by decide) ?_
    exact kk _ _ hR2
  · refine r_ifeqF 1209 dL_law_1206 rfl 1213 (by decide) (inR_toInt _) hb ?_
    refine r_iconst 1210 dL_law_1209 rfl ?_
    refine r_goto 1214 dL_law_1210 (by decide) ?_
    refine r_cv2 1217 dL_law_1214 rfl gL_129 rfl (by decide) (sh_0 z _) rfl rfl (Nat.le_of_ble_eq_true rfl) (Nat.le_of_ble_eq_true rfl) rfl ?_
    refine pr_press hRR (inR_toInt _) (by decide) (Or.inr rfl) (fun r c1 L1 hm => ?_)
    refine r_aloadN 1218 dL_law_1217 rfl rfl ?_
    refine r_aloadN 1219 dL_law_1218 rfl rfl ?_
    refine r_iloadN 1220 dL_law_1219 rfl rfl ?_
    refine r_iconst 1221 dL_law_1220 rfl ?_
    refine r_iadd 1222 dL_law_1221 rfl ?_
    refine r_ialr (n := z.2.2.1) 1223 dL_law_1222 (i0 + 1) rfl (by omega) (roL z) (by omega) (by omega) (by omega) ?_
    refine r_aloadN 1224 dL_law_1223 rfl rfl ?_
    refine r_iloadN 1225 dL_law_1224 rfl rfl ?_
    refine r_iconst 1226 dL_law_1225 rfl ?_
    refine r_iadd 1227 dL_law_1226 rfl ?_
    refine r_ialr (n := z.2.2.1) 1228 dL_law_1227 (i0 + 2) rfl (by omega) (roL z) (by omega) (by omega) (by omega) ?_
    refine r_ifeqF 1231 dL_law_1228 rfl 1235 (by decide) (inR_toInt _) hb ?_
    refine r_iconst 1232 dL_law_1231 rfl ?_
    refine r_goto 1236 dL_law_1232 (by decide) ?_
    refine r_cv2 1239 dL_law_1236 rfl gL_132 rfl (by decide) (sh_50 z _) rfl rfl (Nat.le_of_ble_eq_true rfl) (Nat.le_of_ble_eq_true rfl) rfl ?_
    refine hm _ _ (fun c2 L2 hR2 => ?_)
    refine r_iceqS 1961 dL_law_1239 (by decide) ?_
    exact kk _ _ hR2
theorem la_27 {z : xZ} {d : Nat} {Q : tQ} {c : tC} {L : tL} {i0 : Nat} (hz : zF z) (hN : z.2.2.1 ≤ 3072) (hi : i0 + 6 ≤ z.2.2.1) (hRR : RR c L) (kk : ∀ c2 L2, RR c2 L2 → En z (d + 20 + 1) ML_law Q 1961 [some (.ref (z.2.1 0)), some (.ref (xad z 0 0)), some (.ref (xad z 50 0)), some (.int (iI (i0 : Int)))] [] c2 L2) : En z (d + 20 + 1) ML_law Q 1244 [some (.ref (z.2.1 0)), some (.ref (xad z 0 0)), some (.ref (xad z 50 0)), some (.int (iI (i0 : Int)))] [] c L := by
  refine r_aloadN 1245 dL_law_1244 rfl rfl ?_
  refine r_aloadN 1246 dL_law_1245 rfl rfl ?_
  refine r_iloadN 1247 dL_law_1246 rfl rfl ?_
  refine r_iconst 1248 dL_law_1247 rfl ?_
  refine r_iadd 1249 dL_law_1248 rfl ?_
  refine r_ialr (n := z.2.2.1) 1250 dL_law_1249 (i0 + 1) rfl (by omega) (roL z) (by omega) (by omega) (by omega) ?_
  refine r_aloadN 1251 dL_law_1250 rfl rfl ?_
  refine r_iloadN 1252 dL_law_1251 rfl rfl ?_
  refine r_iconst 1253 dL_law_1252 rfl ?_
  refine r_iadd 1254 dL_law_1253 rfl ?_
  refine r_ialr (n := z.2.2.1) 1255 dL_law_1254 (i0 + 2) rfl (by omega) (roL z) (by omega) (by omega) (by omega) ?_
  refine r_aloadN 1256 dL_law_1255 rfl rfl ?_
  refine r_iloadN 1257 dL_law_1256 rfl rfl ?_
  refine r_iconst 1258 dL_law_1257 rfl ?_
  refine r_iadd 1259 dL_law_1258 rfl ?_
  refine r_ialr (n := z.2.2.1) 1260 dL_law_1259 (i0 + 3) rfl (by omega) (roL z) (by omega) (by omega) (by omega) ?_
  refine r_aloadN 1261 dL_law_1260 rfl rfl ?_
  refine r_iloadN 1262 dL_law_1261 rfl rfl ?_
  refine r_iconst 1263 dL_law_1262 rfl ?_
  refine r_iadd 1264 dL_law_1263 rfl ?_
  refine r_ialr (n := z.2.2.1) 1265 dL_law_1264 (i0 + 4) rfl (by omega) (roL z) (by omega) (by omega) (by omega) ?_
  refine r_cv4 1268 dL_law_1265 rfl gL_133 rfl (by decide) (sh_0 z _) rfl rfl (Nat.le_of_ble_eq_true rfl) (Nat.le_of_ble_eq_true rfl) rfl ?_
  refine pr_pressed hRR (inR_toInt _) (inR_toInt _) (inR_toInt _) (inR_toInt _) (fun r c1 L1 hm => ?_)
  refine r_aloadN 1269 dL_law_1268 rfl rfl ?_
  refine r_aloadN 1270 dL_law_1269 rfl rfl ?_
  refine r_iloadN 1271 dL_law_1270 rfl rfl ?_
  refine r_iconst 1272 dL_law_1271 rfl ?_
  refine r_iadd 1273 dL_law_1272 rfl ?_
  refine r_ialr (n := z.2.2.1) 1274 dL_law_1273 (i0 + 1) rfl (by omega) (roL z) (by omega) (by omega) (by omega) ?_
  refine r_aloadN 1275 dL_law_1274 rfl rfl ?_
  refine r_iloadN 1276 dL_law_1275 rfl rfl ?_
  refine r_iconst 1277 dL_law_1276 rfl ?_
  refine r_iadd 1278 dL_law_1277 rfl ?_
  refine r_ialr (n := z.2.2.1) 1279 dL_law_1278 (i0 + 2) rfl (by omega) (roL z) (by omega) (by omega) (by omega) ?_
  refine r_aloadN 1280 dL_law_1279 rfl rfl ?_
  refine r_iloadN 1281 dL_law_1280 rfl rfl ?_
  refine r_iconst 1282 dL_law_1281 rfl ?_
  refine r_iadd 1283 dL_law_1282 rfl ?_
  refine r_ialr (n := z.2.2.1) 1284 dL_law_1283 (i0 + 3) rfl (by omega) (roL z) (by omega) (by omega) (by omega) ?_
  refine r_aloadN 1285 dL_law_1284 rfl rfl ?_
  refine r_iloadN 1286 dL_law_1285 rfl rfl ?_
  refine r_iconst 1287 dL_law_1286 rfl ?_
  refine r_iadd 1288 dL_law_1287 rfl ?_
  refine r_ialr (n := z.2.2.1) 1289 dL_law_1288 (i0 + 4) rfl (by omega) (roL z) (by omega) (by omega) (by omega) ?_
  refine r_cv4 1292 dL_law_1289 rfl gL_136 rfl (by decide) (sh_50 z _) rfl rfl (Nat.le_of_ble_eq_true rfl) (Nat.le_of_ble_eq_true rfl) rfl ?_
  refine hm _ _ (fun c2 L2 hR2 => ?_)
  refine r_iceqS 1961 dL_law_1292 (by decide) ?_
  exact kk _ _ hR2
theorem la_28 {z : xZ} {d : Nat} {Q : tQ} {c : tC} {L : tL} {i0 : Nat} (hz : zF z) (hN : z.2.2.1 ≤ 3072) (hi : i0 + 6 ≤ z.2.2.1) (hRR : RR c L) (kk : ∀ c2 L2, RR c2 L2 → En z (d + 20 + 1) ML_law Q 1961 [some (.ref (z.2.1 0)), some (.ref (xad z 0 0)), some (.ref (xad z 50 0)), some (.int (iI (i0 : Int)))] [] c2 L2) : En z (d + 20 + 1) ML_law Q 1297 [some (.ref (z.2.1 0)), some (.ref (xad z 0 0)), some (.ref (xad z 50 0)), some (.int (iI (i0 : Int)))] [] c L := by
  refine r_aloadN 1298 dL_law_1297 rfl rfl ?_
  refine r_aloadN 1299 dL_law_1298 rfl rfl ?_
  refine r_iloadN 1300 dL_law_1299 rfl rfl ?_
  refine r_iconst 1301 dL_law_1300 rfl ?_
  refine r_iadd 1302 dL_law_1301 rfl ?_
  refine r_ialr (n := z.2.2.1) 1303 dL_law_1302 (i0 + 1) rfl (by omega) (roL z) (by omega) (by omega) (by omega) ?_
  refine r_aloadN 1304 dL_law_1303 rfl rfl ?_
  refine r_iloadN 1305 dL_law_1304 rfl rfl ?_
  refine r_iconst 1306 dL_law_1305 rfl ?_
  refine r_iadd 1307 dL_law_1306 rfl ?_
  refine r_ialr (n := z.2.2.1) 1308 dL_law_1307 (i0 + 2) rfl (by omega) (roL z) (by omega) (by omega) (by omega) ?_
  refine r_cv2 1311 dL_law_1308 rfl gL_137 rfl (by decide) (sh_0 z _) rfl rfl (Nat.le_of_ble_eq_true rfl) (Nat.le_of_ble_eq_true rfl) rfl ?_
  refine pr_match hRR (inR_toInt _) (inR_toInt _) (fun r c1 L1 hm => ?_)
  refine r_aloadN 1312 dL_law_1311 rfl rfl ?_
  refine r_aloadN 1313 dL_law_1312 rfl rfl ?_
  refine r_iloadN 1314 dL_law_1313 rfl rfl ?_
  refine r_iconst 1315 dL_law_1314 rfl ?_
  refine r_iadd 1316 dL_law_1315 rfl ?_
  refine r_ialr (n := z.2.2.1) 1317 dL_law_1316 (i0 + 1) rfl (by omega) (roL z) (by omega) (by omega) (by omega) ?_
  refine r_aloadN 1318 dL_law_1317 rfl rfl ?_
  refine r_iloadN 1319 dL_law_1318 rfl rfl ?_
  refine r_iconst 1320 dL_law_1319 rfl ?_
  refine r_iadd 1321 dL_law_1320 rfl ?_
  refine r_ialr (n := z.2.2.1) 1322 dL_law_1321 (i0 + 2) rfl (by omega) (roL z) (by omega) (by omega) (by omega) ?_
  refine r_cv2 1325 dL_law_1322 rfl gL_140 rfl (by decide) (sh_50 z _) rfl rfl (Nat.le_of_ble_eq_true rfl) (Nat.le_of_ble_eq_true rfl) rfl ?_
  refine hm _ _ (fun c2 L2 hR2 => ?_)
  refine r_iceqS 1961 dL_law_1325 (by decide) ?_
  exact kk _ _ hR2
theorem la_29 {z : xZ} {d : Nat} {Q : tQ} {c : tC} {L : tL} {i0 : Nat} (hz : zF z) (hN : z.2.2.1 ≤ 3072) (hi : i0 + 6 ≤ z.2.2.1) (hRR : RR c L) (kk : ∀ c2 L2, RR c2 L2 → En z (d + 20 + 1) ML_law Q 1961 [some (.ref (z.2.1 0)), some (.ref (xad z 0 0)), some (.ref (xad z 50 0)), some (.int (iI (i0 : Int)))] [] c2 L2) : En z (d + 20 + 1) ML_law Q 1330 [some (.ref (z.2.1 0)), some (.ref (xad z 0 0)), some (.ref (xad z 50 0)), some (.int (iI (i0 : Int)))] [] c L := by
  refine r_aloadN 1331 dL_law_1330 rfl rfl ?_
  refine r_aloadN 1332 dL_law_1331 rfl rfl ?_
  refine r_iloadN 1333 dL_law_1332 rfl rfl ?_
  refine r_iconst 1334 dL_law_1333 rfl ?_
  refine r_iadd 1335 dL_law_1334 rfl ?_
  refine r_ialr (n := z.2.2.1) 1336 dL_law_1335 (i0 + 1) rfl (by omega) (roL z) (by omega) (by omega) (by omega) ?_
  refine r_aloadN 1337 dL_law_1336 rfl rfl ?_
  refine r_iloadN 1338 dL_law_1337 rfl rfl ?_
  refine r_iconst 1339 dL_law_1338 rfl ?_
  refine r_iadd 1340 dL_law_1339 rfl ?_
  refine r_ialr (n := z.2.2.1) 1341 dL_law_1340 (i0 + 2) rfl (by omega) (roL z) (by omega) (by omega) (by omega) ?_
  refine r_cv2 1344 dL_law_1341 rfl gL_141 rfl (by decide) (sh_0 z _) rfl rfl (Nat.le_of_ble_eq_true rfl) (Nat.le_of_ble_eq_true rfl) rfl ?_
  refine pr_letter hRR (inR_toInt _) (inR_toInt _) (fun r c1 L1 hm => ?_)
  refine r_aloadN 1345 dL_law_1344 rfl rfl ?_
  refine r_aloadN 1346 dL_law_1345 rfl rfl ?_
  refine r_iloadN 1347 dL_law_1346 rfl rfl ?_
  refine r_iconst 1348 dL_law_1347 rfl ?_
  refine r_iadd 1349 dL_law_1348 rfl ?_
  refine r_ialr (n := z.2.2.1) 1350 dL_law_1349 (i0 + 1) rfl (by omega) (roL z) (by omega) (by omega) (by omega) ?_
  refine r_aloadN 1351 dL_law_1350 rfl rfl ?_
  refine r_iloadN 1352 dL_law_1351 rfl rfl ?_
  refine r_iconst 1353 dL_law_1352 rfl ?_
  refine r_iadd 1354 dL_law_1353 rfl ?_
  refine r_ialr (n := z.2.2.1) 1355 dL_law_1354 (i0 + 2) rfl (by omega) (roL z) (by omega) (by omega) (by omega) ?_
  refine r_cv2 1358 dL_law_1355 rfl gL_144 rfl (by decide) (sh_50 z _) rfl rfl (Nat.le_of_ble_eq_true rfl) (Nat.le_of_ble_eq_true rfl) rfl ?_
  refine hm _ _ (fun c2 L2 hR2 => ?_)
  refine r_iceqS 1961 dL_law_1358 (by decide) ?_
  exact kk _ _ hR2
theorem la_30 {z : xZ} {d : Nat} {Q : tQ} {c : tC} {L : tL} {i0 : Nat} (hz : zF z) (hN : z.2.2.1 ≤ 3072) (hi : i0 + 6 ≤ z.2.2.1) (hRR : RR c L) (kk : ∀ c2 L2, RR c2 L2 → En z (d + 20 + 1) ML_law Q 1961 [some (.ref (z.2.1 0)), some (.ref (xad z 0 0)), some (.ref (xad z 50 0)), some (.int (iI (i0 : Int)))] [] c2 L2) : En z (d + 20 + 1) ML_law Q 1363 [some (.ref (z.2.1 0)), some (.ref (xad z 0 0)), some (.ref (xad z 50 0)), some (.int (iI (i0 : Int)))] [] c L := by
  refine r_aloadN 1364 dL_law_1363 rfl rfl ?_
  refine r_aloadN 1365 dL_law_1364 rfl rfl ?_
  refine r_iloadN 1366 dL_law_1365 rfl rfl ?_
  refine r_iconst 1367 dL_law_1366 rfl ?_
  refine r_iadd 1368 dL_law_1367 rfl ?_
  refine r_ialr (n := z.2.2.1) 1369 dL_law_1368 (i0 + 1) rfl (by omega) (roL z) (by omega) (by omega) (by omega) ?_
  refine r_aloadN 1370 dL_law_1369 rfl rfl ?_
  refine r_iloadN 1371 dL_law_1370 rfl rfl ?_
  refine r_iconst 1372 dL_law_1371 rfl ?_
  refine r_iadd 1373 dL_law_1372 rfl ?_
  refine r_ialr (n := z.2.2.1) 1374 dL_law_1373 (i0 + 2) rfl (by omega) (roL z) (by omega) (by omega) (by omega) ?_
  refine r_cv2 1377 dL_law_1374 rfl gL_145 rfl (by decide) (sh_0 z _) rfl rfl (Nat.le_of_ble_eq_true rfl) (Nat.le_of_ble_eq_true rfl) rfl ?_
  refine pr_odds hRR (inR_toInt _) (inR_toInt _) (fun r c1 L1 hm => ?_)
  refine r_aloadN 1378 dL_law_1377 rfl rfl ?_
  refine r_aloadN 1379 dL_law_1378 rfl rfl ?_
  refine r_iloadN 1380 dL_law_1379 rfl rfl ?_
  refine r_iconst 1381 dL_law_1380 rfl ?_
  refine r_iadd 1382 dL_law_1381 rfl ?_
  refine r_ialr (n := z.2.2.1) 1383 dL_law_1382 (i0 + 1) rfl (by omega) (roL z) (by omega) (by omega) (by omega) ?_
  refine r_aloadN 1384 dL_law_1383 rfl rfl ?_
  refine r_iloadN 1385 dL_law_1384 rfl rfl ?_
  refine r_iconst 1386 dL_law_1385 rfl ?_
  refine r_iadd 1387 dL_law_1386 rfl ?_
  refine r_ialr (n := z.2.2.1) 1388 dL_law_1387 (i0 + 2) rfl (by omega) (roL z) (by omega) (by omega) (by omega) ?_
  refine r_cv2 1391 dL_law_1388 rfl gL_148 rfl (by decide) (sh_50 z _) rfl rfl (Nat.le_of_ble_eq_true rfl) (Nat.le_of_ble_eq_true rfl) rfl ?_
  refine hm _ _ (fun c2 L2 hR2 => ?_)
  refine r_lcmpS 1392 dL_law_1391 rfl ?_
  refine r_ifeqT 1961 0 dL_law_1392 (by decide) (by decide) rfl ?_
  exact kk _ _ hR2
theorem la_31 {z : xZ} {d : Nat} {Q : tQ} {c : tC} {L : tL} {i0 : Nat} (hz : zF z) (hN : z.2.2.1 ≤ 3072) (hi : i0 + 6 ≤ z.2.2.1) (hRR : RR c L) (kk : ∀ c2 L2, RR c2 L2 → En z (d + 20 + 1) ML_law Q 1961 [some (.ref (z.2.1 0)), some (.ref (xad z 0 0)), some (.ref (xad z 50 0)), some (.int (iI (i0 : Int)))] [] c2 L2) : En z (d + 20 + 1) ML_law Q 1397 [some (.ref (z.2.1 0)), some (.ref (xad z 0 0)), some (.ref (xad z 50 0)), some (.int (iI (i0 : Int)))] [] c L := by
  refine r_aloadN 1398 dL_law_1397 rfl rfl ?_
  refine r_aloadN 1399 dL_law_1398 rfl rfl ?_
  refine r_iloadN 1400 dL_law_1399 rfl rfl ?_
  refine r_iconst 1401 dL_law_1400 rfl ?_
  refine r_iadd 1402 dL_law_1401 rfl ?_
  refine r_ialr (n := z.2.2.1) 1403 dL_law_1402 (i0 + 1) rfl (by omega) (roL z) (by omega) (by omega) (by omega) ?_
  refine r_aloadN 1404 dL_law_1403 rfl rfl ?_
  refine r_iloadN 1405 dL_law_1404 rfl rfl ?_
  refine r_iconst 1406 dL_law_1405 rfl ?_
  refine r_iadd 1407 dL_law_1406 rfl ?_
  refine r_ialr (n := z.2.2.1) 1408 dL_law_1407 (i0 + 2) rfl (by omega) (roL z) (by omega) (by omega) (by omega) ?_
  refine r_cv2 1411 dL_law_1408 rfl gL_149 rfl (by decide) (sh_0 z _) rfl rfl (Nat.le_of_ble_eq_true rfl) (Nat.le_of_ble_eq_true rfl) rfl ?_
  refine pr_sure hRR (inR_toInt _) (inR_toInt _) (fun r c1 L1 hm => ?_)
  refine r_aloadN 1412 dL_law_1411 rfl rfl ?_
  refine r_aloadN 1413 dL_law_1412 rfl rfl ?_
  refine r_iloadN 1414 dL_law_1413 rfl rfl ?_
  refine r_iconst 1415 dL_law_1414 rfl ?_
  refine r_iadd 1416 dL_law_1415 rfl ?_
  refine r_ialr (n := z.2.2.1) 1417 dL_law_1416 (i0 + 1) rfl (by omega) (roL z) (by omega) (by omega) (by omega) ?_
  refine r_aloadN 1418 dL_law_1417 rfl rfl ?_
  refine r_iloadN 1419 dL_law_1418 rfl rfl ?_
  refine r_iconst 1420 dL_law_1419 rfl ?_
  refine r_iadd 1421 dL_law_1420 rfl ?_
  refine r_ialr (n := z.2.2.1) 1422 dL_law_1421 (i0 + 2) rfl (by omega) (roL z) (by omega) (by omega) (by omega) ?_
  refine r_cv2 1425 dL_law_1422 rfl gL_152 rfl (by decide) (sh_50 z _) rfl rfl (Nat.le_of_ble_eq_true rfl) (Nat.le_of_ble_eq_true rfl) rfl ?_
  refine hm _ _ (fun c2 L2 hR2 => ?_)
  refine r_iceqS 1961 dL_law_1425 (by decide) ?_
  exact kk _ _ hR2
theorem la_32 {z : xZ} {d : Nat} {Q : tQ} {c : tC} {L : tL} {i0 : Nat} (hz : zF z) (hN : z.2.2.1 ≤ 3072) (hi : i0 + 6 ≤ z.2.2.1) (hRR : RR c L) (kk : ∀ c2 L2, RR c2 L2 → En z (d + 20 + 1) ML_law Q 1961 [some (.ref (z.2.1 0)), some (.ref (xad z 0 0)), some (.ref (xad z 50 0)), some (.int (iI (i0 : Int)))] [] c2 L2) : En z (d + 20 + 1) ML_law Q 1430 [some (.ref (z.2.1 0)), some (.ref (xad z 0 0)), some (.ref (xad z 50 0)), some (.int (iI (i0 : Int)))] [] c L := by
  refine r_aloadN 1431 dL_law_1430 rfl rfl ?_
  refine r_aloadN 1432 dL_law_1431 rfl rfl ?_
  refine r_iloadN 1433 dL_law_1432 rfl rfl ?_
  refine r_iconst 1434 dL_law_1433 rfl ?_
  refine r_iadd 1435 dL_law_1434 rfl ?_
  refine r_ialr (n := z.2.2.1) 1436 dL_law_1435 (i0 + 1) rfl (by omega) (roL z) (by omega) (by omega) (by omega) ?_
  refine r_aloadN 1437 dL_law_1436 rfl rfl ?_
  refine r_iloadN 1438 dL_law_1437 rfl rfl ?_
  refine r_iconst 1439 dL_law_1438 rfl ?_
  refine r_iadd 1440 dL_law_1439 rfl ?_
  refine r_ialr (n := z.2.2.1) 1441 dL_law_1440 (i0 + 2) rfl (by omega) (roL z) (by omega) (by omega) (by omega) ?_
  refine r_cv2 1444 dL_law_1441 rfl gL_153 rfl (by decide) (sh_0 z _) rfl rfl (Nat.le_of_ble_eq_true rfl) (Nat.le_of_ble_eq_true rfl) rfl ?_
  refine pr_could hRR (inR_toInt _) (inR_toInt _) (fun r c1 L1 hm => ?_)
  refine r_aloadN 1445 dL_law_1444 rfl rfl ?_
  refine r_aloadN 1446 dL_law_1445 rfl rfl ?_
  refine r_iloadN 1447 dL_law_1446 rfl rfl ?_
  refine r_iconst 1448 dL_law_1447 rfl ?_
  refine r_iadd 1449 dL_law_1448 rfl ?_
  refine r_ialr (n := z.2.2.1) 1450 dL_law_1449 (i0 + 1) rfl (by omega) (roL z) (by omega) (by omega) (by omega) ?_
  refine r_aloadN 1451 dL_law_1450 rfl rfl ?_
  refine r_iloadN 1452 dL_law_1451 rfl rfl ?_
  refine r_iconst 1453 dL_law_1452 rfl ?_
  refine r_iadd 1454 dL_law_1453 rfl ?_
  refine r_ialr (n := z.2.2.1) 1455 dL_law_1454 (i0 + 2) rfl (by omega) (roL z) (by omega) (by omega) (by omega) ?_
  refine r_cv2 1458 dL_law_1455 rfl gL_156 rfl (by decide) (sh_50 z _) rfl rfl (Nat.le_of_ble_eq_true rfl) (Nat.le_of_ble_eq_true rfl) rfl ?_
  refine hm _ _ (fun c2 L2 hR2 => ?_)
  refine r_iceqS 1961 dL_law_1458 (by decide) ?_
  exact kk _ _ hR2
theorem la_33 {z : xZ} {d : Nat} {Q : tQ} {c : tC} {L : tL} {i0 : Nat} (hz : zF z) (hN : z.2.2.1 ≤ 3072) (hi : i0 + 6 ≤ z.2.2.1) (hRR : RR c L) (kk : ∀ c2 L2, RR c2 L2 → En z (d + 20 + 1) ML_law Q 1961 [some (.ref (z.2.1 0)), some (.ref (xad z 0 0)), some (.ref (xad z 50 0)), some (.int (iI (i0 : Int)))] [] c2 L2) : En z (d + 20 + 1) ML_law Q 1463 [some (.ref (z.2.1 0)), some (.ref (xad z 0 0)), some (.ref (xad z 50 0)), some (.int (iI (i0 : Int)))] [] c L := by
  refine r_aloadN 1464 dL_law_1463 rfl rfl ?_
  refine r_aloadN 1465 dL_law_1464 rfl rfl ?_
  refine r_iloadN 1466 dL_law_1465 rfl rfl ?_
  refine r_iconst 1467 dL_law_1466 rfl ?_
  refine r_iadd 1468 dL_law_1467 rfl ?_
  refine r_ialr (n := z.2.2.1) 1469 dL_law_1468 (i0 + 1) rfl (by omega) (roL z) (by omega) (by omega) (by omega) ?_
  refine r_cv1 1472 dL_law_1469 rfl gL_157 rfl (by decide) (sh_0 z _) rfl rfl (Nat.le_of_ble_eq_true rfl) (Nat.le_of_ble_eq_true rfl) rfl ?_
  refine pr_lacks hRR (inR_toInt _) (fun r c1 L1 hm => ?_)
  refine r_aloadN 1473 dL_law_1472 rfl rfl ?_
  refine r_aloadN 1474 dL_law_1473 rfl rfl ?_
  refine r_iloadN 1475 dL_law_1474 rfl rfl ?_
  refine r_iconst 1476 dL_law_1475 rfl ?_
  refine r_iadd 1477 dL_law_1476 rfl ?_
  refine r_ialr (n := z.2.2.1) 1478 dL_law_1477 (i0 + 1) rfl (by omega) (roL z) (by omega) (by omega) (by omega) ?_
  refine r_cv1 1481 dL_law_1478 rfl gL_160 rfl (by decide) (sh_50 z _) rfl rfl (Nat.le_of_ble_eq_true rfl) (Nat.le_of_ble_eq_true rfl) rfl ?_
  refine hm _ _ (fun c2 L2 hR2 => ?_)
  refine r_iceqS 1961 dL_law_1481 (by decide) ?_
  exact kk _ _ hR2
theorem la_34 {z : xZ} {d : Nat} {Q : tQ} {c : tC} {L : tL} {i0 : Nat} (hz : zF z) (hN : z.2.2.1 ≤ 3072) (hi : i0 + 6 ≤ z.2.2.1) (hRR : RR c L) (kk : ∀ c2 L2, RR c2 L2 → En z (d + 20 + 1) ML_law Q 1961 [some (.ref (z.2.1 0)), some (.ref (xad z 0 0)), some (.ref (xad z 50 0)), some (.int (iI (i0 : Int)))] [] c2 L2) : En z (d + 20 + 1) ML_law Q 1486 [some (.ref (z.2.1 0)), some (.ref (xad z 0 0)), some (.ref (xad z 50 0)), some (.int (iI (i0 : Int)))] [] c L := by
  refine r_aloadN 1487 dL_law_1486 rfl rfl ?_
  refine r_aloadN 1488 dL_law_1487 rfl rfl ?_
  refine r_iloadN 1489 dL_law_1488 rfl rfl ?_
  refine r_iconst 1490 dL_law_1489 rfl ?_
  refine r_iadd 1491 dL_law_1490 rfl ?_
  refine r_ialr (n := z.2.2.1) 1492 dL_law_1491 (i0 + 1) rfl (by omega) (roL z) (by omega) (by omega) (by omega) ?_
  refine r_aloadN 1493 dL_law_1492 rfl rfl ?_
  refine r_iloadN 1494 dL_law_1493 rfl rfl ?_
  refine r_iconst 1495 dL_law_1494 rfl ?_
  refine r_iadd 1496 dL_law_1495 rfl ?_
  refine r_ialr (n := z.2.2.1) 1497 dL_law_1496 (i0 + 2) rfl (by omega) (roL z) (by omega) (by omega) (by omega) ?_
  refine r_aloadN 1498 dL_law_1497 rfl rfl ?_
  refine r_iloadN 1499 dL_law_1498 rfl rfl ?_
  refine r_iconst 1500 dL_law_1499 rfl ?_
  refine r_iadd 1501 dL_law_1500 rfl ?_
  refine r_ialr (n := z.2.2.1) 1502 dL_law_1501 (i0 + 3) rfl (by omega) (roL z) (by omega) (by omega) (by omega) ?_
  refine r_cv3 1505 dL_law_1502 rfl gL_161 rfl (by decide) (sh_0 z _) rfl rfl (Nat.le_of_ble_eq_true rfl) (Nat.le_of_ble_eq_true rfl) rfl ?_
  refine pr_rid hRR (inR_toInt _) (inR_toInt _) (inR_toInt _) (fun r c1 L1 hm => ?_)
  refine r_aloadN 1506 dL_law_1505 rfl rfl ?_
  refine r_aloadN 1507 dL_law_1506 rfl rfl ?_
  refine r_iloadN 1508 dL_law_1507 rfl rfl ?_
  refine r_iconst 1509 dL_law_1508 rfl ?_
  refine r_iadd 1510 dL_law_1509 rfl ?_
  refine r_ialr (n := z.2.2.1) 1511 dL_law_1510 (i0 + 1) rfl (by omega) (roL z) (by omega) (by omega) (by omega) ?_
  refine r_aloadN 1512 dL_law_1511 rfl rfl ?_
  refine r_iloadN 1513 dL_law_1512 rfl rfl ?_
  refine r_iconst 1514 dL_law_1513 rfl ?_
  refine r_iadd 1515 dL_law_1514 rfl ?_
  refine r_ialr (n := z.2.2.1) 1516 dL_law_1515 (i0 + 2) rfl (by omega) (roL z) (by omega) (by omega) (by omega) ?_
  refine r_aloadN 1517 dL_law_1516 rfl rfl ?_
  refine r_iloadN 1518 dL_law_1517 rfl rfl ?_
  refine r_iconst 1519 dL_law_1518 rfl ?_
  refine r_iadd 1520 dL_law_1519 rfl ?_
  refine r_ialr (n := z.2.2.1) 1521 dL_law_1520 (i0 + 3) rfl (by omega) (roL z) (by omega) (by omega) (by omega) ?_
  refine r_cv3 1524 dL_law_1521 rfl gL_164 rfl (by decide) (sh_50 z _) rfl rfl (Nat.le_of_ble_eq_true rfl) (Nat.le_of_ble_eq_true rfl) rfl ?_
  refine hm _ _ (fun c2 L2 hR2 => ?_)
  refine r_iceqS 1961 dL_law_1524 (by decide) ?_
  exact kk _ _ hR2
theorem la_35 {z : xZ} {d : Nat} {Q : tQ} {c : tC} {L : tL} {i0 : Nat} (hz : zF z) (hN : z.2.2.1 ≤ 3072) (hi : i0 + 6 ≤ z.2.2.1) (hRR : RR c L) (kk : ∀ c2 L2, RR c2 L2 → En z (d + 20 + 1) ML_law Q 1961 [some (.ref (z.2.1 0)), some (.ref (xad z 0 0)), some (.ref (xad z 50 0)), some (.int (iI (i0 : Int)))] [] c2 L2) : En z (d + 20 + 1) ML_law Q 1529 [some (.ref (z.2.1 0)), some (.ref (xad z 0 0)), some (.ref (xad z 50 0)), some (.int (iI (i0 : Int)))] [] c L := by
  refine r_aloadN 1530 dL_law_1529 rfl rfl ?_
  refine r_aloadN 1531 dL_law_1530 rfl rfl ?_
  refine r_iloadN 1532 dL_law_1531 rfl rfl ?_
  refine r_iconst 1533 dL_law_1532 rfl ?_
  refine r_iadd 1534 dL_law_1533 rfl ?_
  refine r_ialr (n := z.2.2.1) 1535 dL_law_1534 (i0 + 1) rfl (by omega) (roL z) (by omega) (by omega) (by omega) ?_
  refine r_aloadN 1536 dL_law_1535 rfl rfl ?_
  refine r_iloadN 1537 dL_law_1536 rfl rfl ?_
  refine r_iconst 1538 dL_law_1537 rfl ?_
  refine r_iadd 1539 dL_law_1538 rfl ?_
  refine r_ialr (n := z.2.2.1) 1540 dL_law_1539 (i0 + 2) rfl (by omega) (roL z) (by omega) (by omega) (by omega) ?_
  refine r_aloadN 1541 dL_law_1540 rfl rfl ?_
  refine r_iloadN 1542 dL_law_1541 rfl rfl ?_
  refine r_iconst 1543 dL_law_1542 rfl ?_
  refine r_iadd 1544 dL_law_1543 rfl ?_
  refine r_ialr (n := z.2.2.1) 1545 dL_law_1544 (i0 + 3) rfl (by omega) (roL z) (by omega) (by omega) (by omega) ?_
  refine r_cv3 1548 dL_law_1545 rfl gL_165 rfl (by decide) (sh_0 z _) rfl rfl (Nat.le_of_ble_eq_true rfl) (Nat.le_of_ble_eq_true rfl) rfl ?_
  refine pr_best hRR (inR_toInt _) (inR_toInt _) (inR_toInt _) (fun r c1 L1 hm => ?_)
  refine r_aloadN 1549 dL_law_1548 rfl rfl ?_
  refine r_aloadN 1550 dL_law_1549 rfl rfl ?_
  refine r_iloadN 1551 dL_law_1550 rfl rfl ?_
  refine r_iconst 1552 dL_law_1551 rfl ?_
  refine r_iadd 1553 dL_law_1552 rfl ?_
  refine r_ialr (n := z.2.2.1) 1554 dL_law_1553 (i0 + 1) rfl (by omega) (roL z) (by omega) (by omega) (by omega) ?_
  refine r_aloadN 1555 dL_law_1554 rfl rfl ?_
  refine r_iloadN 1556 dL_law_1555 rfl rfl ?_
  refine r_iconst 1557 dL_law_1556 rfl ?_
  refine r_iadd 1558 dL_law_1557 rfl ?_
  refine r_ialr (n := z.2.2.1) 1559 dL_law_1558 (i0 + 2) rfl (by omega) (roL z) (by omega) (by omega) (by omega) ?_
  refine r_aloadN 1560 dL_law_1559 rfl rfl ?_
  refine r_iloadN 1561 dL_law_1560 rfl rfl ?_
  refine r_iconst 1562 dL_law_1561 rfl ?_
  refine r_iadd 1563 dL_law_1562 rfl ?_
  refine r_ialr (n := z.2.2.1) 1564 dL_law_1563 (i0 + 3) rfl (by omega) (roL z) (by omega) (by omega) (by omega) ?_
  refine r_cv3 1567 dL_law_1564 rfl gL_168 rfl (by decide) (sh_50 z _) rfl rfl (Nat.le_of_ble_eq_true rfl) (Nat.le_of_ble_eq_true rfl) rfl ?_
  refine hm _ _ (fun c2 L2 hR2 => ?_)
  refine r_iceqS 1961 dL_law_1567 (by decide) ?_
  exact kk _ _ hR2
theorem la_36 {z : xZ} {d : Nat} {Q : tQ} {c : tC} {L : tL} {i0 : Nat} (hz : zF z) (hN : z.2.2.1 ≤ 3072) (hi : i0 + 6 ≤ z.2.2.1) (hRR : RR c L) (kk : ∀ c2 L2, RR c2 L2 → En z (d + 20 + 1) ML_law Q 1961 [some (.ref (z.2.1 0)), some (.ref (xad z 0 0)), some (.ref (xad z 50 0)), some (.int (iI (i0 : Int)))] [] c2 L2) : En z (d + 20 + 1) ML_law Q 1572 [some (.ref (z.2.1 0)), some (.ref (xad z 0 0)), some (.ref (xad z 50 0)), some (.int (iI (i0 : Int)))] [] c L := by
  refine r_aloadN 1573 dL_law_1572 rfl rfl ?_
  refine r_aloadN 1574 dL_law_1573 rfl rfl ?_
  refine r_iloadN 1575 dL_law_1574 rfl rfl ?_
  refine r_iconst 1576 dL_law_1575 rfl ?_
  refine r_iadd 1577 dL_law_1576 rfl ?_
  refine r_ialr (n := z.2.2.1) 1578 dL_law_1577 (i0 + 1) rfl (by omega) (roL z) (by omega) (by omega) (by omega) ?_
  refine r_aloadN 1579 dL_law_1578 rfl rfl ?_
  refine r_iloadN 1580 dL_law_1579 rfl rfl ?_
  refine r_iconst 1581 dL_law_1580 rfl ?_
  refine r_iadd 1582 dL_law_1581 rfl ?_
  refine r_ialr (n := z.2.2.1) 1583 dL_law_1582 (i0 + 2) rfl (by omega) (roL z) (by omega) (by omega) (by omega) ?_
  refine r_cv2 1586 dL_law_1583 rfl gL_169 rfl (by decide) (sh_0 z _) rfl rfl (Nat.le_of_ble_eq_true rfl) (Nat.le_of_ble_eq_true rfl) rfl ?_
  refine pr_lots hRR (inR_toInt _) (inR_toInt _) (fun r c1 L1 hm => ?_)
  refine r_aloadN 1587 dL_law_1586 rfl rfl ?_
  refine r_aloadN 1588 dL_law_1587 rfl rfl ?_
  refine r_iloadN 1589 dL_law_1588 rfl rfl ?_
  refine r_iconst 1590 dL_law_1589 rfl ?_
  refine r_iadd 1591 dL_law_1590 rfl ?_
  refine r_ialr (n := z.2.2.1) 1592 dL_law_1591 (i0 + 1) rfl (by omega) (roL z) (by omega) (by omega) (by omega) ?_
  refine r_aloadN 1593 dL_law_1592 rfl rfl ?_
  refine r_iloadN 1594 dL_law_1593 rfl rfl ?_
  refine r_iconst 1595 dL_law_1594 rfl ?_
  refine r_iadd 1596 dL_law_1595 rfl ?_
  refine r_ialr (n := z.2.2.1) 1597 dL_law_1596 (i0 + 2) rfl (by omega) (roL z) (by omega) (by omega) (by omega) ?_
  refine r_cv2 1600 dL_law_1597 rfl gL_172 rfl (by decide) (sh_50 z _) rfl rfl (Nat.le_of_ble_eq_true rfl) (Nat.le_of_ble_eq_true rfl) rfl ?_
  refine hm _ _ (fun c2 L2 hR2 => ?_)
  refine r_iceqS 1961 dL_law_1600 (by decide) ?_
  exact kk _ _ hR2
theorem la_37 {z : xZ} {d : Nat} {Q : tQ} {c : tC} {L : tL} {i0 : Nat} (hz : zF z) (hN : z.2.2.1 ≤ 3072) (hi : i0 + 6 ≤ z.2.2.1) (hRR : RR c L) (kk : ∀ c2 L2, RR c2 L2 → En z (d + 20 + 1) ML_law Q 1961 [some (.ref (z.2.1 0)), some (.ref (xad z 0 0)), some (.ref (xad z 50 0)), some (.int (iI (i0 : Int)))] [] c2 L2) : En z (d + 20 + 1) ML_law Q 1605 [some (.ref (z.2.1 0)), some (.ref (xad z 0 0)), some (.ref (xad z 50 0)), some (.int (iI (i0 : Int)))] [] c L := by
  refine r_aloadN 1606 dL_law_1605 rfl rfl ?_
  refine r_aloadN 1607 dL_law_1606 rfl rfl ?_
  refine r_iloadN 1608 dL_law_1607 rfl rfl ?_
  refine r_iconst 1609 dL_law_1608 rfl ?_
  refine r_iadd 1610 dL_law_1609 rfl ?_
  refine r_ialr (n := z.2.2.1) 1611 dL_law_1610 (i0 + 1) rfl (by omega) (roL z) (by omega) (by omega) (by omega) ?_
  refine r_cv1 1614 dL_law_1611 rfl gL_173 rfl (by decide) (sh_0 z _) rfl rfl (Nat.le_of_ble_eq_true rfl) (Nat.le_of_ble_eq_true rfl) rfl ?_
  refine pr_need hRR (inR_toInt _) (fun r c1 L1 hm => ?_)
  refine r_aloadN 1615 dL_law_1614 rfl rfl ?_
  refine r_aloadN 1616 dL_law_1615 rfl rfl ?_
  refine r_iloadN 1617 dL_law_1616 rfl rfl ?_
  refine r_iconst 1618 dL_law_1617 rfl ?_
  refine r_iadd 1619 dL_law_1618 rfl ?_
  refine r_ialr (n := z.2.2.1) 1620 dL_law_1619 (i0 + 1) rfl (by omega) (roL z) (by omega) (by omega) (by omega) ?_
  refine r_cv1 1623 dL_law_1620 rfl gL_176 rfl (by decide) (sh_50 z _) rfl rfl (Nat.le_of_ble_eq_true rfl) (Nat.le_of_ble_eq_true rfl) rfl ?_
  refine hm _ _ (fun c2 L2 hR2 => ?_)
  refine r_iceqS 1961 dL_law_1623 (by decide) ?_
  exact kk _ _ hR2
theorem la_38 {z : xZ} {d : Nat} {Q : tQ} {c : tC} {L : tL} {i0 : Nat} (hz : zF z) (hN : z.2.2.1 ≤ 3072) (hi : i0 + 6 ≤ z.2.2.1) (hRR : RR c L) (kk : ∀ c2 L2, RR c2 L2 → En z (d + 20 + 1) ML_law Q 1961 [some (.ref (z.2.1 0)), some (.ref (xad z 0 0)), some (.ref (xad z 50 0)), some (.int (iI (i0 : Int)))] [] c2 L2) : En z (d + 20 + 1) ML_law Q 1628 [some (.ref (z.2.1 0)), some (.ref (xad z 0 0)), some (.ref (xad z 50 0)), some (.int (iI (i0 : Int)))] [] c L := by
  refine r_aloadN 1629 dL_law_1628 rfl rfl ?_
  refine r_aloadN 1630 dL_law_1629 rfl rfl ?_
  refine r_iloadN 1631 dL_law_1630 rfl rfl ?_
  refine r_iconst 1632 dL_law_1631 rfl ?_
  refine r_iadd 1633 dL_law_1632 rfl ?_
  refine r_ialr (n := z.2.2.1) 1634 dL_law_1633 (i0 + 1) rfl (by omega) (roL z) (by omega) (by omega) (by omega) ?_
  refine r_cv1 1637 dL_law_1634 rfl gL_177 rfl (by decide) (sh_0 z _) rfl rfl (Nat.le_of_ble_eq_true rfl) (Nat.le_of_ble_eq_true rfl) rfl ?_
  refine pr_told hRR (inR_toInt _) (fun r c1 L1 hm => ?_)
  refine r_aloadN 1638 dL_law_1637 rfl rfl ?_
  refine r_aloadN 1639 dL_law_1638 rfl rfl ?_
  refine r_iloadN 1640 dL_law_1639 rfl rfl ?_
  refine r_iconst 1641 dL_law_1640 rfl ?_
  refine r_iadd 1642 dL_law_1641 rfl ?_
  refine r_ialr (n := z.2.2.1) 1643 dL_law_1642 (i0 + 1) rfl (by omega) (roL z) (by omega) (by omega) (by omega) ?_
  refine r_cv1 1646 dL_law_1643 rfl gL_180 rfl (by decide) (sh_50 z _) rfl rfl (Nat.le_of_ble_eq_true rfl) (Nat.le_of_ble_eq_true rfl) rfl ?_
  refine hm _ _ (fun c2 L2 hR2 => ?_)
  refine r_iceqS 1961 dL_law_1646 (by decide) ?_
  exact kk _ _ hR2
theorem la_39 {z : xZ} {d : Nat} {Q : tQ} {c : tC} {L : tL} {i0 : Nat} (hz : zF z) (hN : z.2.2.1 ≤ 3072) (hi : i0 + 6 ≤ z.2.2.1) (hRR : RR c L) (kk : ∀ c2 L2, RR c2 L2 → En z (d + 20 + 1) ML_law Q 1961 [some (.ref (z.2.1 0)), some (.ref (xad z 0 0)), some (.ref (xad z 50 0)), some (.int (iI (i0 : Int)))] [] c2 L2) : En z (d + 20 + 1) ML_law Q 1651 [some (.ref (z.2.1 0)), some (.ref (xad z 0 0)), some (.ref (xad z 50 0)), some (.int (iI (i0 : Int)))] [] c L := by
  refine r_aloadN 1652 dL_law_1651 rfl rfl ?_
  refine r_aloadN 1653 dL_law_1652 rfl rfl ?_
  refine r_iloadN 1654 dL_law_1653 rfl rfl ?_
  refine r_iconst 1655 dL_law_1654 rfl ?_
  refine r_iadd 1656 dL_law_1655 rfl ?_
  refine r_ialr (n := z.2.2.1) 1657 dL_law_1656 (i0 + 1) rfl (by omega) (roL z) (by omega) (by omega) (by omega) ?_
  refine r_aloadN 1658 dL_law_1657 rfl rfl ?_
  refine r_iloadN 1659 dL_law_1658 rfl rfl ?_
  refine r_iconst 1660 dL_law_1659 rfl ?_
  refine r_iadd 1661 dL_law_1660 rfl ?_
  refine r_ialr (n := z.2.2.1) 1662 dL_law_1661 (i0 + 2) rfl (by omega) (roL z) (by omega) (by omega) (by omega) ?_
  refine r_cv2 1665 dL_law_1662 rfl gL_181 rfl (by decide) (sh_0 z _) rfl rfl (Nat.le_of_ble_eq_true rfl) (Nat.le_of_ble_eq_true rfl) rfl ?_
  refine pr_beats hRR (inR_toInt _) (inR_toInt _) (fun r c1 L1 hm => ?_)
  refine r_aloadN 1666 dL_law_1665 rfl rfl ?_
  refine r_aloadN 1667 dL_law_1666 rfl rfl ?_
  refine r_iloadN 1668 dL_law_1667 rfl rfl ?_
  refine r_iconst 1669 dL_law_1668 rfl ?_
  refine r_iadd 1670 dL_law_1669 rfl ?_
  refine r_ialr (n := z.2.2.1) 1671 dL_law_1670 (i0 + 1) rfl (by omega) (roL z) (by omega) (by omega) (by omega) ?_
  refine r_aloadN 1672 dL_law_1671 rfl rfl ?_
  refine r_iloadN 1673 dL_law_1672 rfl rfl ?_
  refine r_iconst 1674 dL_law_1673 rfl ?_
  refine r_iadd 1675 dL_law_1674 rfl ?_
  refine r_ialr (n := z.2.2.1) 1676 dL_law_1675 (i0 + 2) rfl (by omega) (roL z) (by omega) (by omega) (by omega) ?_
  refine r_cv2 1679 dL_law_1676 rfl gL_184 rfl (by decide) (sh_50 z _) rfl rfl (Nat.le_of_ble_eq_true rfl) (Nat.le_of_ble_eq_true rfl) rfl ?_
  refine hm _ _ (fun c2 L2 hR2 => ?_)
  refine r_iceqS 1961 dL_law_1679 (by decide) ?_
  exact kk _ _ hR2
theorem la_40 {z : xZ} {d : Nat} {Q : tQ} {c : tC} {L : tL} {i0 : Nat} (hz : zF z) (hN : z.2.2.1 ≤ 3072) (hi : i0 + 6 ≤ z.2.2.1) (hRR : RR c L) (kk : ∀ c2 L2, RR c2 L2 → En z (d + 20 + 1) ML_law Q 1961 [some (.ref (z.2.1 0)), some (.ref (xad z 0 0)), some (.ref (xad z 50 0)), some (.int (iI (i0 : Int)))] [] c2 L2) : En z (d + 20 + 1) ML_law Q 1684 [some (.ref (z.2.1 0)), some (.ref (xad z 0 0)), some (.ref (xad z 50 0)), some (.int (iI (i0 : Int)))] [] c L := by
  refine r_aloadN 1685 dL_law_1684 rfl rfl ?_
  refine r_aloadN 1686 dL_law_1685 rfl rfl ?_
  refine r_iloadN 1687 dL_law_1686 rfl rfl ?_
  refine r_iconst 1688 dL_law_1687 rfl ?_
  refine r_iadd 1689 dL_law_1688 rfl ?_
  refine r_ialr (n := z.2.2.1) 1690 dL_law_1689 (i0 + 1) rfl (by omega) (roL z) (by omega) (by omega) (by omega) ?_
  refine r_cv1 1693 dL_law_1690 rfl gL_185 rfl (by decide) (sh_0 z _) rfl rfl (Nat.le_of_ble_eq_true rfl) (Nat.le_of_ble_eq_true rfl) rfl ?_
  refine pr_halve hRR (inR_toInt _) (fun r c1 L1 hm => ?_)
  refine r_aloadN 1694 dL_law_1693 rfl rfl ?_
  refine r_aloadN 1695 dL_law_1694 rfl rfl ?_
  refine r_iloadN 1696 dL_law_1695 rfl rfl ?_
  refine r_iconst 1697 dL_law_1696 rfl ?_
  refine r_iadd 1698 dL_law_1697 rfl ?_
  refine r_ialr (n := z.2.2.1) 1699 dL_law_1698 (i0 + 1) rfl (by omega) (roL z) (by omega) (by omega) (by omega) ?_
  refine r_cv1 1702 dL_law_1699 rfl gL_188 rfl (by decide) (sh_50 z _) rfl rfl (Nat.le_of_ble_eq_true rfl) (Nat.le_of_ble_eq_true rfl) rfl ?_
  refine hm _ _ (fun c2 L2 hR2 => ?_)
  refine r_iceqS 1961 dL_law_1702 (by decide) ?_
  exact kk _ _ hR2
theorem la_41 {z : xZ} {d : Nat} {Q : tQ} {c : tC} {L : tL} {i0 : Nat} (hz : zF z) (hN : z.2.2.1 ≤ 3072) (hi : i0 + 6 ≤ z.2.2.1) (hRR : RR c L) (kk : ∀ c2 L2, RR c2 L2 → En z (d + 20 + 1) ML_law Q 1961 [some (.ref (z.2.1 0)), some (.ref (xad z 0 0)), some (.ref (xad z 50 0)), some (.int (iI (i0 : Int)))] [] c2 L2) : En z (d + 20 + 1) ML_law Q 1707 [some (.ref (z.2.1 0)), some (.ref (xad z 0 0)), some (.ref (xad z 50 0)), some (.int (iI (i0 : Int)))] [] c L := by
  refine r_aloadN 1708 dL_law_1707 rfl rfl ?_
  refine r_aloadN 1709 dL_law_1708 rfl rfl ?_
  refine r_iloadN 1710 dL_law_1709 rfl rfl ?_
  refine r_iconst 1711 dL_law_1710 rfl ?_
  refine r_iadd 1712 dL_law_1711 rfl ?_
  refine r_ialr (n := z.2.2.1) 1713 dL_law_1712 (i0 + 1) rfl (by omega) (roL z) (by omega) (by omega) (by omega) ?_
  refine r_aloadN 1714 dL_law_1713 rfl rfl ?_
  refine r_iloadN 1715 dL_law_1714 rfl rfl ?_
  refine r_iconst 1716 dL_law_1715 rfl ?_
  refine r_iadd 1717 dL_law_1716 rfl ?_
  refine r_ialr (n := z.2.2.1) 1718 dL_law_1717 (i0 + 2) rfl (by omega) (roL z) (by omega) (by omega) (by omega) ?_
  refine r_aloadN 1719 dL_law_1718 rfl rfl ?_
  refine r_iloadN 1720 dL_law_1719 rfl rfl ?_
  refine r_iconst 1721 dL_law_1720 rfl ?_
  refine r_iadd 1722 dL_law_1721 rfl ?_
  refine r_ialr (n := z.2.2.1) 1723 dL_law_1722 (i0 + 3) rfl (by omega) (roL z) (by omega) (by omega) (by omega) ?_
  refine r_aloadN 1724 dL_law_1723 rfl rfl ?_
  refine r_iloadN 1725 dL_law_1724 rfl rfl ?_
  refine r_iconst 1726 dL_law_1725 rfl ?_
  refine r_iadd 1727 dL_law_1726 rfl ?_
  refine r_ialr (n := z.2.2.1) 1728 dL_law_1727 (i0 + 4) rfl (by omega) (roL z) (by omega) (by omega) (by omega) ?_
  refine r_cv4 1731 dL_law_1728 rfl gL_189 rfl (by decide) (sh_0 z _) rfl rfl (Nat.le_of_ble_eq_true rfl) (Nat.le_of_ble_eq_true rfl) rfl ?_
  refine pr_meter hRR (inR_toInt _) (inR_toInt _) (inR_toInt _) (inR_toInt _) (fun r c1 L1 hm => ?_)
  refine r_aloadN 1732 dL_law_1731 rfl rfl ?_
  refine r_aloadN 1733 dL_law_1732 rfl rfl ?_
  refine r_iloadN 1734 dL_law_1733 rfl rfl ?_
  refine r_iconst 1735 dL_law_1734 rfl ?_
  refine r_iadd 1736 dL_law_1735 rfl ?_
  refine r_ialr (n := z.2.2.1) 1737 dL_law_1736 (i0 + 1) rfl (by omega) (roL z) (by omega) (by omega) (by omega) ?_
  refine r_aloadN 1738 dL_law_1737 rfl rfl ?_
  refine r_iloadN 1739 dL_law_1738 rfl rfl ?_
  refine r_iconst 1740 dL_law_1739 rfl ?_
  refine r_iadd 1741 dL_law_1740 rfl ?_
  refine r_ialr (n := z.2.2.1) 1742 dL_law_1741 (i0 + 2) rfl (by omega) (roL z) (by omega) (by omega) (by omega) ?_
  refine r_aloadN 1743 dL_law_1742 rfl rfl ?_
  refine r_iloadN 1744 dL_law_1743 rfl rfl ?_
  refine r_iconst 1745 dL_law_1744 rfl ?_
  refine r_iadd 1746 dL_law_1745 rfl ?_
  refine r_ialr (n := z.2.2.1) 1747 dL_law_1746 (i0 + 3) rfl (by omega) (roL z) (by omega) (by omega) (by omega) ?_
  refine r_aloadN 1748 dL_law_1747 rfl rfl ?_
  refine r_iloadN 1749 dL_law_1748 rfl rfl ?_
  refine r_iconst 1750 dL_law_1749 rfl ?_
  refine r_iadd 1751 dL_law_1750 rfl ?_
  refine r_ialr (n := z.2.2.1) 1752 dL_law_1751 (i0 + 4) rfl (by omega) (roL z) (by omega) (by omega) (by omega) ?_
  refine r_cv4 1755 dL_law_1752 rfl gL_192 rfl (by decide) (sh_50 z _) rfl rfl (Nat.le_of_ble_eq_true rfl) (Nat.le_of_ble_eq_true rfl) rfl ?_
  refine hm _ _ (fun c2 L2 hR2 => ?_)
  refine r_iceqS 1961 dL_law_1755 (by decide) ?_
  exact kk _ _ hR2
theorem la_42 {z : xZ} {d : Nat} {Q : tQ} {c : tC} {L : tL} {i0 : Nat} (hz : zF z) (hN : z.2.2.1 ≤ 3072) (hi : i0 + 6 ≤ z.2.2.1) (hRR : RR c L) (kk : ∀ c2 L2, RR c2 L2 → En z (d + 20 + 1) ML_law Q 1961 [some (.ref (z.2.1 0)), some (.ref (xad z 0 0)), some (.ref (xad z 50 0)), some (.int (iI (i0 : Int)))] [] c2 L2) : En z (d + 20 + 1) ML_law Q 1760 [some (.ref (z.2.1 0)), some (.ref (xad z 0 0)), some (.ref (xad z 50 0)), some (.int (iI (i0 : Int)))] [] c L := by
  refine r_aloadN 1761 dL_law_1760 rfl rfl ?_
  refine r_aloadN 1762 dL_law_1761 rfl rfl ?_
  refine r_iloadN 1763 dL_law_1762 rfl rfl ?_
  refine r_iconst 1764 dL_law_1763 rfl ?_
  refine r_iadd 1765 dL_law_1764 rfl ?_
  refine r_ialr (n := z.2.2.1) 1766 dL_law_1765 (i0 + 1) rfl (by omega) (roL z) (by omega) (by omega) (by omega) ?_
  refine r_aloadN 1767 dL_law_1766 rfl rfl ?_
  refine r_iloadN 1768 dL_law_1767 rfl rfl ?_
  refine r_iconst 1769 dL_law_1768 rfl ?_
  refine r_iadd 1770 dL_law_1769 rfl ?_
  refine r_ialr (n := z.2.2.1) 1771 dL_law_1770 (i0 + 2) rfl (by omega) (roL z) (by omega) (by omega) (by omega) ?_
  refine r_aloadN 1772 dL_law_1771 rfl rfl ?_
  refine r_iloadN 1773 dL_law_1772 rfl rfl ?_
  refine r_iconst 1774 dL_law_1773 rfl ?_
  refine r_iadd 1775 dL_law_1774 rfl ?_
  refine r_ialr (n := z.2.2.1) 1776 dL_law_1775 (i0 + 3) rfl (by omega) (roL z) (by omega) (by omega) (by omega) ?_
  refine r_cv3 1779 dL_law_1776 rfl gL_193 rfl (by decide) (sh_0 z _) rfl rfl (Nat.le_of_ble_eq_true rfl) (Nat.le_of_ble_eq_true rfl) rfl ?_
  refine pr_place hRR (inR_toInt _) (inR_toInt _) (inR_toInt _) (fun r c1 L1 hm => ?_)
  refine r_aloadN 1780 dL_law_1779 rfl rfl ?_
  refine r_aloadN 1781 dL_law_1780 rfl rfl ?_
  refine r_iloadN 1782 dL_law_1781 rfl rfl ?_
  refine r_iconst 1783 dL_law_1782 rfl ?_
  refine r_iadd 1784 dL_law_1783 rfl ?_
  refine r_ialr (n := z.2.2.1) 1785 dL_law_1784 (i0 + 1) rfl (by omega) (roL z) (by omega) (by omega) (by omega) ?_
  refine r_aloadN 1786 dL_law_1785 rfl rfl ?_
  refine r_iloadN 1787 dL_law_1786 rfl rfl ?_
  refine r_iconst 1788 dL_law_1787 rfl ?_
  refine r_iadd 1789 dL_law_1788 rfl ?_
  refine r_ialr (n := z.2.2.1) 1790 dL_law_1789 (i0 + 2) rfl (by omega) (roL z) (by omega) (by omega) (by omega) ?_
  refine r_aloadN 1791 dL_law_1790 rfl rfl ?_
  refine r_iloadN 1792 dL_law_1791 rfl rfl ?_
  refine r_iconst 1793 dL_law_1792 rfl ?_
  refine r_iadd 1794 dL_law_1793 rfl ?_
  refine r_ialr (n := z.2.2.1) 1795 dL_law_1794 (i0 + 3) rfl (by omega) (roL z) (by omega) (by omega) (by omega) ?_
  refine r_cv3 1798 dL_law_1795 rfl gL_196 rfl (by decide) (sh_50 z _) rfl rfl (Nat.le_of_ble_eq_true rfl) (Nat.le_of_ble_eq_true rfl) rfl ?_
  refine hm _ _ (fun c2 L2 hR2 => ?_)
  refine r_iceqS 1961 dL_law_1798 (by decide) ?_
  exact kk _ _ hR2
theorem la_43 {z : xZ} {d : Nat} {Q : tQ} {c : tC} {L : tL} {i0 : Nat} (hz : zF z) (hN : z.2.2.1 ≤ 3072) (hi : i0 + 6 ≤ z.2.2.1) (hRR : RR c L) (kk : ∀ c2 L2, RR c2 L2 → En z (d + 20 + 1) ML_law Q 1961 [some (.ref (z.2.1 0)), some (.ref (xad z 0 0)), some (.ref (xad z 50 0)), some (.int (iI (i0 : Int)))] [] c2 L2) : En z (d + 20 + 1) ML_law Q 1803 [some (.ref (z.2.1 0)), some (.ref (xad z 0 0)), some (.ref (xad z 50 0)), some (.int (iI (i0 : Int)))] [] c L := by
  refine r_aloadN 1804 dL_law_1803 rfl rfl ?_
  refine r_aloadN 1805 dL_law_1804 rfl rfl ?_
  refine r_iloadN 1806 dL_law_1805 rfl rfl ?_
  refine r_iconst 1807 dL_law_1806 rfl ?_
  refine r_iadd 1808 dL_law_1807 rfl ?_
  refine r_ialr (n := z.2.2.1) 1809 dL_law_1808 (i0 + 1) rfl (by omega) (roL z) (by omega) (by omega) (by omega) ?_
  refine r_aloadN 1810 dL_law_1809 rfl rfl ?_
  refine r_iloadN 1811 dL_law_1810 rfl rfl ?_
  refine r_iconst 1812 dL_law_1811 rfl ?_
  refine r_iadd 1813 dL_law_1812 rfl ?_
  refine r_ialr (n := z.2.2.1) 1814 dL_law_1813 (i0 + 2) rfl (by omega) (roL z) (by omega) (by omega) (by omega) ?_
  refine r_aloadN 1815 dL_law_1814 rfl rfl ?_
  refine r_iloadN 1816 dL_law_1815 rfl rfl ?_
  refine r_iconst 1817 dL_law_1816 rfl ?_
  refine r_iadd 1818 dL_law_1817 rfl ?_
  refine r_ialr (n := z.2.2.1) 1819 dL_law_1818 (i0 + 3) rfl (by omega) (roL z) (by omega) (by omega) (by omega) ?_
  refine r_cv3 1822 dL_law_1819 rfl gL_197 rfl (by decide) (sh_0 z _) rfl rfl (Nat.le_of_ble_eq_true rfl) (Nat.le_of_ble_eq_true rfl) rfl ?_
  refine pr_bed hRR (inR_toInt _) (inR_toInt _) (inR_toInt _) (fun r c1 L1 hm => ?_)
  refine r_aloadN 1823 dL_law_1822 rfl rfl ?_
  refine r_aloadN 1824 dL_law_1823 rfl rfl ?_
  refine r_iloadN 1825 dL_law_1824 rfl rfl ?_
  refine r_iconst 1826 dL_law_1825 rfl ?_
  refine r_iadd 1827 dL_law_1826 rfl ?_
  refine r_ialr (n := z.2.2.1) 1828 dL_law_1827 (i0 + 1) rfl (by omega) (roL z) (by omega) (by omega) (by omega) ?_
  refine r_aloadN 1829 dL_law_1828 rfl rfl ?_
  refine r_iloadN 1830 dL_law_1829 rfl rfl ?_
  refine r_iconst 1831 dL_law_1830 rfl ?_
  refine r_iadd 1832 dL_law_1831 rfl ?_
  refine r_ialr (n := z.2.2.1) 1833 dL_law_1832 (i0 + 2) rfl (by omega) (roL z) (by omega) (by omega) (by omega) ?_
  refine r_aloadN 1834 dL_law_1833 rfl rfl ?_
  refine r_iloadN 1835 dL_law_1834 rfl rfl ?_
  refine r_iconst 1836 dL_law_1835 rfl ?_
  refine r_iadd 1837 dL_law_1836 rfl ?_
  refine r_ialr (n := z.2.2.1) 1838 dL_law_1837 (i0 + 3) rfl (by omega) (roL z) (by omega) (by omega) (by omega) ?_
  refine r_cv3 1841 dL_law_1838 rfl gL_200 rfl (by decide) (sh_50 z _) rfl rfl (Nat.le_of_ble_eq_true rfl) (Nat.le_of_ble_eq_true rfl) rfl ?_
  refine hm _ _ (fun c2 L2 hR2 => ?_)
  refine r_iceqS 1961 dL_law_1841 (by decide) ?_
  exact kk _ _ hR2
theorem la_44 {z : xZ} {d : Nat} {Q : tQ} {c : tC} {L : tL} {i0 : Nat} (hz : zF z) (hN : z.2.2.1 ≤ 3072) (hi : i0 + 6 ≤ z.2.2.1) (hRR : RR c L) (kk : ∀ c2 L2, RR c2 L2 → En z (d + 20 + 1) ML_law Q 1961 [some (.ref (z.2.1 0)), some (.ref (xad z 0 0)), some (.ref (xad z 50 0)), some (.int (iI (i0 : Int)))] [] c2 L2) : En z (d + 20 + 1) ML_law Q 1846 [some (.ref (z.2.1 0)), some (.ref (xad z 0 0)), some (.ref (xad z 50 0)), some (.int (iI (i0 : Int)))] [] c L := by
  refine r_aloadN 1847 dL_law_1846 rfl rfl ?_
  refine r_aloadN 1848 dL_law_1847 rfl rfl ?_
  refine r_iloadN 1849 dL_law_1848 rfl rfl ?_
  refine r_iconst 1850 dL_law_1849 rfl ?_
  refine r_iadd 1851 dL_law_1850 rfl ?_
  refine r_ialr (n := z.2.2.1) 1852 dL_law_1851 (i0 + 1) rfl (by omega) (roL z) (by omega) (by omega) (by omega) ?_
  refine r_aloadN 1853 dL_law_1852 rfl rfl ?_
  refine r_iloadN 1854 dL_law_1853 rfl rfl ?_
  refine r_iconst 1855 dL_law_1854 rfl ?_
  refine r_iadd 1856 dL_law_1855 rfl ?_
  refine r_ialr (n := z.2.2.1) 1857 dL_law_1856 (i0 + 2) rfl (by omega) (roL z) (by omega) (by omega) (by omega) ?_
  refine r_aloadN 1858 dL_law_1857 rfl rfl ?_
  refine r_iloadN 1859 dL_law_1858 rfl rfl ?_
  refine r_iconst 1860 dL_law_1859 rfl ?_
  refine r_iadd 1861 dL_law_1860 rfl ?_
  refine r_ialr (n := z.2.2.1) 1862 dL_law_1861 (i0 + 3) rfl (by omega) (roL z) (by omega) (by omega) (by omega) ?_
  refine r_cv3 1865 dL_law_1862 rfl gL_201 rfl (by decide) (sh_0 z _) rfl rfl (Nat.le_of_ble_eq_true rfl) (Nat.le_of_ble_eq_true rfl) rfl ?_
  refine pr_act hRR (inR_toInt _) (inR_toInt _) (inR_toInt _) (fun r c1 L1 hm => ?_)
  refine r_aloadN 1866 dL_law_1865 rfl rfl ?_
  refine r_aloadN 1867 dL_law_1866 rfl rfl ?_
  refine r_iloadN 1868 dL_law_1867 rfl rfl ?_
  refine r_iconst 1869 dL_law_1868 rfl ?_
  refine r_iadd 1870 dL_law_1869 rfl ?_
  refine r_ialr (n := z.2.2.1) 1871 dL_law_1870 (i0 + 1) rfl (by omega) (roL z) (by omega) (by omega) (by omega) ?_
  refine r_aloadN 1872 dL_law_1871 rfl rfl ?_
  refine r_iloadN 1873 dL_law_1872 rfl rfl ?_
  refine r_iconst 1874 dL_law_1873 rfl ?_
  refine r_iadd 1875 dL_law_1874 rfl ?_
  refine r_ialr (n := z.2.2.1) 1876 dL_law_1875 (i0 + 2) rfl (by omega) (roL z) (by omega) (by omega) (by omega) ?_
  refine r_aloadN 1877 dL_law_1876 rfl rfl ?_
  refine r_iloadN 1878 dL_law_1877 rfl rfl ?_
  refine r_iconst 1879 dL_law_1878 rfl ?_
  refine r_iadd 1880 dL_law_1879 rfl ?_
  refine r_ialr (n := z.2.2.1) 1881 dL_law_1880 (i0 + 3) rfl (by omega) (roL z) (by omega) (by omega) (by omega) ?_
  refine r_cv3 1884 dL_law_1881 rfl gL_204 rfl (by decide) (sh_50 z _) rfl rfl (Nat.le_of_ble_eq_true rfl) (Nat.le_of_ble_eq_true rfl) rfl ?_
  refine hm _ _ (fun c2 L2 hR2 => ?_)
  refine r_iceqS 1961 dL_law_1884 (by decide) ?_
  exact kk _ _ hR2
theorem la_45 {z : xZ} {d : Nat} {Q : tQ} {c : tC} {L : tL} {i0 : Nat} (hz : zF z) (hN : z.2.2.1 ≤ 3072) (hi : i0 + 6 ≤ z.2.2.1) (hRR : RR c L) (kk : ∀ c2 L2, RR c2 L2 → En z (d + 20 + 1) ML_law Q 1961 [some (.ref (z.2.1 0)), some (.ref (xad z 0 0)), some (.ref (xad z 50 0)), some (.int (iI (i0 : Int)))] [] c2 L2) : En z (d + 20 + 1) ML_law Q 1889 [some (.ref (z.2.1 0)), some (.ref (xad z 0 0)), some (.ref (xad z 50 0)), some (.int (iI (i0 : Int)))] [] c L := by
  refine r_aloadN 1890 dL_law_1889 rfl rfl ?_
  refine r_aloadN 1891 dL_law_1890 rfl rfl ?_
  refine r_iloadN 1892 dL_law_1891 rfl rfl ?_
  refine r_iconst 1893 dL_law_1892 rfl ?_
  refine r_iadd 1894 dL_law_1893 rfl ?_
  refine r_ialr (n := z.2.2.1) 1895 dL_law_1894 (i0 + 1) rfl (by omega) (roL z) (by omega) (by omega) (by omega) ?_
  refine r_cv1 1898 dL_law_1895 rfl gL_205 rfl (by decide) (sh_0 z _) rfl rfl (Nat.le_of_ble_eq_true rfl) (Nat.le_of_ble_eq_true rfl) rfl ?_
  refine pr_trace hRR (inR_toInt _) (fun r c1 L1 hm => ?_)
  refine r_aloadN 1899 dL_law_1898 rfl rfl ?_
  refine r_aloadN 1900 dL_law_1899 rfl rfl ?_
  refine r_iloadN 1901 dL_law_1900 rfl rfl ?_
  refine r_iconst 1902 dL_law_1901 rfl ?_
  refine r_iadd 1903 dL_law_1902 rfl ?_
  refine r_ialr (n := z.2.2.1) 1904 dL_law_1903 (i0 + 1) rfl (by omega) (roL z) (by omega) (by omega) (by omega) ?_
  refine r_cv1 1907 dL_law_1904 rfl gL_208 rfl (by decide) (sh_50 z _) rfl rfl (Nat.le_of_ble_eq_true rfl) (Nat.le_of_ble_eq_true rfl) rfl ?_
  refine hm _ _ (fun c2 L2 hR2 => ?_)
  refine r_iceqS 1961 dL_law_1907 (by decide) ?_
  exact kk _ _ hR2
theorem la_46 {z : xZ} {d : Nat} {Q : tQ} {c : tC} {L : tL} {i0 : Nat} (hz : zF z) (hN : z.2.2.1 ≤ 3072) (hi : i0 + 6 ≤ z.2.2.1) (hRR : RR c L) (kk : ∀ c2 L2, RR c2 L2 → En z (d + 20 + 1) ML_law Q 1961 [some (.ref (z.2.1 0)), some (.ref (xad z 0 0)), some (.ref (xad z 50 0)), some (.int (iI (i0 : Int)))] [] c2 L2) : En z (d + 20 + 1) ML_law Q 1912 [some (.ref (z.2.1 0)), some (.ref (xad z 0 0)), some (.ref (xad z 50 0)), some (.int (iI (i0 : Int)))] [] c L := by
  refine r_aloadN 1913 dL_law_1912 rfl rfl ?_
  refine r_cv0 1916 dL_law_1913 rfl gL_209 rfl (by decide) (sh_0 z _) rfl rfl (Nat.le_of_ble_eq_true rfl) (Nat.le_of_ble_eq_true rfl) rfl ?_
  refine pr_image hRR  (fun r c1 L1 hm => ?_)
  refine r_aloadN 1917 dL_law_1916 rfl rfl ?_
  refine r_cv0 1920 dL_law_1917 rfl gL_212 rfl (by decide) (sh_50 z _) rfl rfl (Nat.le_of_ble_eq_true rfl) (Nat.le_of_ble_eq_true rfl) rfl ?_
  refine hm _ _ (fun c2 L2 hR2 => ?_)
  refine r_iceqS 1961 dL_law_1920 (by decide) ?_
  exact kk _ _ hR2
theorem la_47 {z : xZ} {d : Nat} {Q : tQ} {c : tC} {L : tL} {i0 : Nat} (hz : zF z) (hN : z.2.2.1 ≤ 3072) (hi : i0 + 6 ≤ z.2.2.1) (hRR : RR c L) (kk : ∀ c2 L2, RR c2 L2 → En z (d + 20 + 1) ML_law Q 1961 [some (.ref (z.2.1 0)), some (.ref (xad z 0 0)), some (.ref (xad z 50 0)), some (.int (iI (i0 : Int)))] [] c2 L2) : En z (d + 20 + 1) ML_law Q 1925 [some (.ref (z.2.1 0)), some (.ref (xad z 0 0)), some (.ref (xad z 50 0)), some (.int (iI (i0 : Int)))] [] c L := by
  refine r_aloadN 1926 dL_law_1925 rfl rfl ?_
  refine r_cv0 1929 dL_law_1926 rfl gL_213 rfl (by decide) (sh_0 z _) rfl rfl (Nat.le_of_ble_eq_true rfl) (Nat.le_of_ble_eq_true rfl) rfl ?_
  refine pr_restore hRR  (fun r c1 L1 hm => ?_)
  refine r_aloadN 1930 dL_law_1929 rfl rfl ?_
  refine r_cv0 1933 dL_law_1930 rfl gL_216 rfl (by decide) (sh_50 z _) rfl rfl (Nat.le_of_ble_eq_true rfl) (Nat.le_of_ble_eq_true rfl) rfl ?_
  refine hm _ _ (fun c2 L2 hR2 => ?_)
  refine r_iceqS 1961 dL_law_1933 (by decide) ?_
  exact kk _ _ hR2
theorem la_48 {z : xZ} {d : Nat} {Q : tQ} {c : tC} {L : tL} {i0 : Nat} (hz : zF z) (hN : z.2.2.1 ≤ 3072) (hi : i0 + 6 ≤ z.2.2.1) (hRR : RR c L) (kk : ∀ c2 L2, RR c2 L2 → En z (d + 20 + 1) ML_law Q 1961 [some (.ref (z.2.1 0)), some (.ref (xad z 0 0)), some (.ref (xad z 50 0)), some (.int (iI (i0 : Int)))] [] c2 L2) : En z (d + 20 + 1) ML_law Q 1938 [some (.ref (z.2.1 0)), some (.ref (xad z 0 0)), some (.ref (xad z 50 0)), some (.int (iI (i0 : Int)))] [] c L := by
  refine r_aloadN 1939 dL_law_1938 rfl rfl ?_
  refine r_aloadN 1940 dL_law_1939 rfl rfl ?_
  refine r_iloadN 1941 dL_law_1940 rfl rfl ?_
  refine r_iconst 1942 dL_law_1941 rfl ?_
  refine r_iadd 1943 dL_law_1942 rfl ?_
  refine r_ialr (n := z.2.2.1) 1944 dL_law_1943 (i0 + 1) rfl (by omega) (roL z) (by omega) (by omega) (by omega) ?_
  refine r_cv1 1947 dL_law_1944 rfl gL_217 rfl (by decide) (sh_0 z _) rfl rfl (Nat.le_of_ble_eq_true rfl) (Nat.le_of_ble_eq_true rfl) rfl ?_
  refine pr_status hRR (inR_toInt _) (fun r c1 L1 hm => ?_)
  refine r_aloadN 1948 dL_law_1947 rfl rfl ?_
  refine r_aloadN 1949 dL_law_1948 rfl rfl ?_
  refine r_iloadN 1950 dL_law_1949 rfl rfl ?_
  refine r_iconst 1951 dL_law_1950 rfl ?_
  refine r_iadd 1952 dL_law_1951 rfl ?_
  refine r_ialr (n := z.2.2.1) 1953 dL_law_1952 (i0 + 1) rfl (by omega) (roL z) (by omega) (by omega) (by omega) ?_
  refine r_cv1 1956 dL_law_1953 rfl gL_220 rfl (by decide) (sh_50 z _) rfl rfl (Nat.le_of_ble_eq_true rfl) (Nat.le_of_ble_eq_true rfl) rfl ?_
  refine hm _ _ (fun c2 L2 hR2 => ?_)
  refine r_iceqS 1961 dL_law_1956 (by decide) ?_
  exact kk _ _ hR2
theorem la_loop {z : xZ} {d : Nat} {Q : tQ} (hz : zF z) (hN : z.2.2.1 ≤ 3072) (kr : ∀ c L, Q (some (.int (iI 1))) c L) : ∀ (k i0 : Nat) (c : tC) (L : tL), RR c L → z.2.2.1 ≤ i0 + k → i0 ≤ z.2.2.1 → En z (d + 20 + 1) ML_law Q 18 [some (.ref (z.2.1 0)), some (.ref (xad z 0 0)), some (.ref (xad z 50 0)), some (.int (iI (i0 : Int)))] [] c L := by
  intro k
  induction k with
  | zero =>
    intro i0 c L hRR hk hi
    refine r_iloadN 19 dL_law_18 rfl rfl ?_
    refine r_aloadN 20 dL_law_19 rfl rfl ?_
    refine r_alnr 21 dL_law_20 rfl (roL z) ?_
    refine r_bipush 23 dL_law_21 rfl (by decide) ?_
    refine r_isub 24 dL_law_23 rfl ?_
    refine r_icgt 1967 27 dL_law_24 rfl (by decide) (by omega) (by omega) (fun h24 => ?_) (fun h24 => ?_)
    · refine r_iconst 1968 dL_law_1967 rfl ?_
      exact r_zret dL_law_1968 rfl (Or.inr rfl) (kr _ _)
    · exfalso; omega
  | succ k ih =>
    intro i0 c L hRR hk hi
    refine r_iloadN 19 dL_law_18 rfl rfl ?_
    refine r_aloadN 20 dL_law_19 rfl rfl ?_
    refine r_alnr 21 dL_law_20 rfl (roL z) ?_
    refine r_bipush 23 dL_law_21 rfl (by decide) ?_
    refine r_isub 24 dL_law_23 rfl ?_
    refine r_icgt 1967 27 dL_law_24 rfl (by decide) (by omega) (by omega) (fun h24 => ?_) (fun h24 => ?_)
    · refine r_iconst 1968 dL_law_1967 rfl ?_
      exact r_zret dL_law_1968 rfl (Or.inr rfl) (kr _ _)
    · have hi6 : i0 + 6 ≤ z.2.2.1 := by omega
      have kk : ∀ c2 L2, RR c2 L2 → En z (d + 20 + 1) ML_law Q 1961 [some (.ref (z.2.1 0)), some (.ref (xad z 0 0)), some (.ref (xad z 50 0)), some (.int (iI (i0 : Int)))] [] c2 L2 := fun c2 L2 h2 => by
        refine r_iinc3 1964 dL_law_1961 rfl rfl (by decide) ?_
        refine r_goto 18 dL_law_1964 (by decide) ?_
        rw [show (i0 : Int) + 6 = ((i0 + 6 : Nat) : Int) by omega]
        exact ih (i0 + 6) c2 L2 h2 (by omega) hi6
      refine r_aloadN 28 dL_law_27 rfl rfl ?_
      refine r_iloadN 29 dL_law_28 rfl rfl ?_
      refine r_ialr (n := z.2.2.1) 30 dL_law_29 i0 rfl (by omega) (roL z) (by omega) (by omega) (by omega) ?_
      refine r_bipush 32 dL_law_30 rfl (by decide) ?_
      refine r_iand 33 dL_law_32 rfl ?_
      have ha : inR (iand (z.2.2.2.1 i0).toInt 63) := inR_toInt _
      generalize iand (z.2.2.2.1 i0).toInt 63 = a at ha ⊢
      by_cases h0 : a < 0 ∨ 48 < a
      · exact r_tout 1961 dL_law_33 ha h0 (by decide) (kk _ _ hRR)
      · obtain ⟨m, rfl⟩ := Int.eq_ofNat_of_zero_le (show 0 ≤ a by omega)
        have hm : m < 49 := by omega
        clear h0 h24
        match m, hm with
        | 0, _ => exact r_tin 211 244 dL_law_33 (by decide) (by decide) (by decide) rfl (by decide) (la_0 hz hN hi6 hRR kk)
        | 1, _ => exact r_tin 254 287 dL_law_33 (by decide) (by decide) (by decide) rfl (by decide) (la_1 hz hN hi6 hRR kk)
        | 2, _ => exact r_tin 327 360 dL_law_33 (by decide) (by decide) (by decide) rfl (by decide) (la_2 hz hN hi6 hRR kk)
        | 3, _ => exact r_tin 390 423 dL_law_33 (by decide) (by decide) (by decide) rfl (by decide) (la_3 hz hN hi6 hRR kk)
        | 4, _ => exact r_tin 424 457 dL_law_33 (by decide) (by decide) (by decide) rfl (by decide) (la_4 hz hN hi6 hRR kk)
        | 5, _ => exact r_tin 457 490 dL_law_33 (by decide) (by decide) (by decide) rfl (by decide) (la_5 hz hN hi6 hRR kk)
        | 6, _ => exact r_tin 480 513 dL_law_33 (by decide) (by decide) (by decide) rfl (by decide) (la_6 hz hN hi6 hRR kk)
        | 7, _ => exact r_tin 513 546 dL_law_33 (by decide) (by decide) (by decide) rfl (by decide) (la_7 hz hN hi6 hRR kk)
        | 8, _ => exact r_tin 592 625 dL_law_33 (by decide) (by decide) (by decide) rfl (by decide) (la_8 hz hN hi6 hRR kk)
        | 9, _ => exact r_tin 625 658 dL_law_33 (by decide) (by decide) (by decide) rfl (by decide) (la_9 hz hN hi6 hRR kk)
        | 10, _ => exact r_tin 678 711 dL_law_33 (by decide) (by decide) (by decide) rfl (by decide) (la_10 hz hN hi6 hRR kk)
        | 11, _ => exact r_tin 721 754 dL_law_33 (by decide) (by decide) (by decide) rfl (by decide) (la_11 hz hN hi6 hRR kk)
        | 12, _ => exact r_tin 754 787 dL_law_33 (by decide) (by decide) (by decide) rfl (by decide) (la_12 hz hN hi6 hRR kk)
        | 13, _ => exact r_tin 803 836 dL_law_33 (by decide) (by decide) (by decide) rfl (by decide) (la_13 hz hN hi6 hRR kk)
        | 14, _ => exact r_tin 836 869 dL_law_33 (by decide) (by decide) (by decide) rfl (by decide) (la_14 hz hN hi6 hRR kk)
        | 15, _ => exact r_tin 869 902 dL_law_33 (by decide) (by decide) (by decide) rfl (by decide) (la_15 hz hN hi6 hRR kk)
        | 16, _ => exact r_tin 892 925 dL_law_33 (by decide) (by decide) (by decide) rfl (by decide) (la_16 hz hN hi6 hRR kk)
        | 17, _ => exact r_tin 915 948 dL_law_33 (by decide) (by decide) (by decide) rfl (by decide) (la_17 hz hN hi6 hRR kk)
        | 18, _ => exact r_tin 938 971 dL_law_33 (by decide) (by decide) (by decide) rfl (by decide) (la_18 hz hN hi6 hRR kk)
        | 19, _ => exact r_tin 961 994 dL_law_33 (by decide) (by decide) (by decide) rfl (by decide) (la_19 hz hN hi6 hRR kk)
        | 20, _ => exact r_tin 974 1007 dL_law_33 (by decide) (by decide) (by decide) rfl (by decide) (la_20 hz hN hi6 hRR kk)
        | 21, _ => exact r_tin 997 1030 dL_law_33 (by decide) (by decide) (by decide) rfl (by decide) (la_21 hz hN hi6 hRR kk)
        | 22, _ => exact r_tin 1030 1063 dL_law_33 (by decide) (by decide) (by decide) rfl (by decide) (la_22 hz hN hi6 hRR kk)
        | 23, _ => exact r_tin 1063 1096 dL_law_33 (by decide) (by decide) (by decide) rfl (by decide) (la_23 hz hN hi6 hRR kk)
        | 24, _ => exact r_tin 1096 1129 dL_law_33 (by decide) (by decide) (by decide) rfl (by decide) (la_24 hz hN hi6 hRR kk)
        | 25, _ => exact r_tin 1129 1162 dL_law_33 (by decide) (by decide) (by decide) rfl (by decide) (la_25 hz hN hi6 hRR kk)
        | 26, _ => exact r_tin 1162 1195 dL_law_33 (by decide) (by decide) (by decide) rfl (by decide) (la_26 hz hN hi6 hRR kk)
        | 27, _ => exact r_tin 1211 1244 dL_law_33 (by decide) (by decide) (by decide) rfl (by decide) (la_27 hz hN hi6 hRR kk)
        | 28, _ => exact r_tin 1264 1297 dL_law_33 (by decide) (by decide) (by decide) rfl (by decide) (la_28 hz hN hi6 hRR kk)
        | 29, _ => exact r_tin 1297 1330 dL_law_33 (by decide) (by decide) (by decide) rfl (by decide) (la_29 hz hN hi6 hRR kk)
        | 30, _ => exact r_tin 1330 1363 dL_law_33 (by decide) (by decide) (by decide) rfl (by decide) (la_30 hz hN hi6 hRR kk)
        | 31, _ => exact r_tin 1364 1397 dL_law_33 (by decide) (by decide) (by decide) rfl (by decide) (la_31 hz hN hi6 hRR kk)
        | 32, _ => exact r_tin 1397 1430 dL_law_33 (by decide) (by decide) (by decide) rfl (by decide) (la_32 hz hN hi6 hRR kk)
        | 33, _ => exact r_tin 1430 1463 dL_law_33 (by decide) (by decide) (by decide) rfl (by decide) (la_33 hz hN hi6 hRR kk)
        | 34, _ => exact r_tin 1453 1486 dL_law_33 (by decide) (by decide) (by decide) rfl (by decide) (la_34 hz hN hi6 hRR kk)
        | 35, _ => exact r_tin 1496 1529 dL_law_33 (by decide) (by decide) (by decide) rfl (by decide) (la_35 hz hN hi6 hRR kk)
        | 36, _ => exact r_tin 1539 1572 dL_law_33 (by decide) (by decide) (by decide) rfl (by decide) (la_36 hz hN hi6 hRR kk)
        | 37, _ => exact r_tin 1572 1605 dL_law_33 (by decide) (by decide) (by decide) rfl (by decide) (la_37 hz hN hi6 hRR kk)
        | 38, _ => exact r_tin 1595 1628 dL_law_33 (by decide) (by decide) (by decide) rfl (by decide) (la_38 hz hN hi6 hRR kk)
        | 39, _ => exact r_tin 1618 1651 dL_law_33 (by decide) (by decide) (by decide) rfl (by decide) (la_39 hz hN hi6 hRR kk)
        | 40, _ => exact r_tin 1651 1684 dL_law_33 (by decide) (by decide) (by decide) rfl (by decide) (la_40 hz hN hi6 hRR kk)
        | 41, _ => exact r_tin 1674 1707 dL_law_33 (by decide) (by decide) (by decide) rfl (by decide) (la_41 hz hN hi6 hRR kk)
        | 42, _ => exact r_tin 1727 1760 dL_law_33 (by decide) (by decide) (by decide) rfl (by decide) (la_42 hz hN hi6 hRR kk)
        | 43, _ => exact r_tin 1770 1803 dL_law_33 (by decide) (by decide) (by decide) rfl (by decide) (la_43 hz hN hi6 hRR kk)
        | 44, _ => exact r_tin 1813 1846 dL_law_33 (by decide) (by decide) (by decide) rfl (by decide) (la_44 hz hN hi6 hRR kk)
        | 45, _ => exact r_tin 1856 1889 dL_law_33 (by decide) (by decide) (by decide) rfl (by decide) (la_45 hz hN hi6 hRR kk)
        | 46, _ => exact r_tin 1879 1912 dL_law_33 (by decide) (by decide) (by decide) rfl (by decide) (la_46 hz hN hi6 hRR kk)
        | 47, _ => exact r_tin 1892 1925 dL_law_33 (by decide) (by decide) (by decide) rfl (by decide) (la_47 hz hN hi6 hRR kk)
        | 48, _ => exact r_tin 1905 1938 dL_law_33 (by decide) (by decide) (by decide) rfl (by decide) (la_48 hz hN hi6 hRR kk)
        | n + 49, h => exfalso; omega
