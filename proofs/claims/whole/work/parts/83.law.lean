/-! ===== one call of both, by program ===== -/
theorem lg_same (x : Int64) : lg_cmp x x = 0 := by
  unfold lg_cmp
  rw [if_neg (by simp), if_pos rfl]
section CALLS
variable {b N i : Nat} {xs : Nat → Int32} {w : zW} {s : sT}
theorem g_feed (hi : i + 5 ≤ N) (hN : N ≤ 320) (h : lwI w s) (kk : ∀ w' s', lwI w' s' → WP mL_law 12 (lwT b N xs) 1292 [some (.ref 400), some (.ref 0), some (.ref 50), some (.int (nI i))] [] w') : WP mL_law 12 (lwT b N xs) 200 [some (.ref 400), some (.ref 0), some (.ref 50), some (.int (nI i))] [] w := by
  obtain ⟨hR, hM, hS⟩ := h
  refine r_aload_n 201 dL_law_200 rfl rfl ?_
  refine r_arg (a := 1) 202 203 204 205 206 dL_law_201 dL_law_202 dL_law_203 dL_law_204 dL_law_205 rfl rfl rfl rfl rfl rfl (by omega) hN ?_
  refine r_callV (y2 := mX6_feed) (as := [_]) 209 dL_law_206 ml_L_13 mv_X6_feed (C_feed (d := 11) (by omega) hR hS) (by omega) sh_0 ⟨_, rfl, rfl⟩ rfl (Nat.le_of_ble_eq_true rfl) rfl (kk_i ?_)
  rintro x1 w1 ⟨e1, r1, f1⟩
  have hM1 := hM.hi f1
  refine r_aload_n 210 dL_law_209 rfl rfl ?_
  refine r_arg (a := 1) 211 212 213 214 215 dL_law_210 dL_law_211 dL_law_212 dL_law_213 dL_law_214 rfl rfl rfl rfl rfl rfl (by omega) hN ?_
  refine r_callV (y2 := mX7_feed) (as := [_]) 218 dL_law_215 ml_L_17 mv_X7_feed (M_feed (d := 11) (by omega) hM1 hS) (by omega) sh_50 ⟨_, rfl, rfl⟩ rfl (Nat.le_of_ble_eq_true rfl) rfl (kk_i ?_)
  rintro x2 w2 ⟨e2, r2, f2⟩
  refine r_icmp_eq 1292 221 dL_law_218 (by decide) rfl (fun _ => ?_) (fun z => absurd (e1.symm.trans e2) z)
  exact kk w2 _ ⟨r1.lo f2, r2, v_feed hS⟩
theorem g_end (hi : i + 5 ≤ N) (hN : N ≤ 320) (h : lwI w s) (kk : ∀ w' s', lwI w' s' → WP mL_law 12 (lwT b N xs) 1292 [some (.ref 400), some (.ref 0), some (.ref 50), some (.int (nI i))] [] w') : WP mL_law 12 (lwT b N xs) 223 [some (.ref 400), some (.ref 0), some (.ref 50), some (.int (nI i))] [] w := by
  obtain ⟨hR, hM, hS⟩ := h
  refine r_aload_n 224 dL_law_223 rfl rfl ?_
  refine r_arg (a := 1) 225 226 227 228 229 dL_law_224 dL_law_225 dL_law_226 dL_law_227 dL_law_228 rfl rfl rfl rfl rfl rfl (by omega) hN ?_
  refine r_callV (y2 := mX6_end) (as := [_]) 232 dL_law_229 ml_L_18 mv_X6_end (C_end (d := 11) (by omega) hR hS) (by omega) sh_0 ⟨_, rfl, rfl⟩ rfl (Nat.le_of_ble_eq_true rfl) rfl (kk_i ?_)
  rintro x1 w1 ⟨e1, r1, f1⟩
  have hM1 := hM.hi f1
  refine r_aload_n 233 dL_law_232 rfl rfl ?_
  refine r_arg (a := 1) 234 235 236 237 238 dL_law_233 dL_law_234 dL_law_235 dL_law_236 dL_law_237 rfl rfl rfl rfl rfl rfl (by omega) hN ?_
  refine r_callV (y2 := mX7_end) (as := [_]) 241 dL_law_238 ml_L_21 mv_X7_end (M_end (d := 11) (by omega) hM1 hS) (by omega) sh_50 ⟨_, rfl, rfl⟩ rfl (Nat.le_of_ble_eq_true rfl) rfl (kk_i ?_)
  rintro x2 w2 ⟨e2, r2, f2⟩
  refine r_icmp_eq 1292 244 dL_law_241 (by decide) rfl (fun _ => ?_) (fun z => absurd (e1.symm.trans e2) z)
  exact kk w2 _ ⟨r1.lo f2, r2, v_end hS⟩
theorem g_text (hi : i + 5 ≤ N) (hN : N ≤ 320) (h : lwI w s) (kk : ∀ w' s', lwI w' s' → WP mL_law 12 (lwT b N xs) 1292 [some (.ref 400), some (.ref 0), some (.ref 50), some (.int (nI i))] [] w') : WP mL_law 12 (lwT b N xs) 246 [some (.ref 400), some (.ref 0), some (.ref 50), some (.int (nI i))] [] w := by
  obtain ⟨hR, hM, hS⟩ := h
  refine r_aload_n 247 dL_law_246 rfl rfl ?_
  refine r_callV (y2 := mX6_text) (as := []) 250 dL_law_247 ml_L_22 mv_X6_text (C_text (d := 11) (by omega) hR hS) (by omega) sh_0 ⟨_, rfl, rfl⟩ rfl (Nat.le_of_ble_eq_true rfl) rfl (kk_i ?_)
  rintro x1 w1 ⟨e1, r1, f1⟩
  have hM1 := hM.hi f1
  refine r_aload_n 251 dL_law_250 rfl rfl ?_
  refine r_callV (y2 := mX7_text) (as := []) 254 dL_law_251 ml_L_26 mv_X7_text (M_text (d := 11) (by omega) hM1 hS) (by omega) sh_50 ⟨_, rfl, rfl⟩ rfl (Nat.le_of_ble_eq_true rfl) rfl (kk_i ?_)
  rintro x2 w2 ⟨e2, r2, f2⟩
  refine r_icmp_eq 1292 257 dL_law_254 (by decide) rfl (fun _ => ?_) (fun z => absurd (e1.symm.trans e2) z)
  exact kk w2 _ ⟨r1.lo f2, r2, v_text hS⟩
theorem g_fault (hi : i + 5 ≤ N) (hN : N ≤ 320) (h : lwI w s) (kk : ∀ w' s', lwI w' s' → WP mL_law 12 (lwT b N xs) 1292 [some (.ref 400), some (.ref 0), some (.ref 50), some (.int (nI i))] [] w') : WP mL_law 12 (lwT b N xs) 259 [some (.ref 400), some (.ref 0), some (.ref 50), some (.int (nI i))] [] w := by
  obtain ⟨hR, hM, hS⟩ := h
  refine r_aload_n 260 dL_law_259 rfl rfl ?_
  refine r_callV (y2 := mX6_fault) (as := []) 263 dL_law_260 ml_L_27 mv_X6_fault (C_fault (d := 11) (by omega) hR hS) (by omega) sh_0 ⟨_, rfl, rfl⟩ rfl (Nat.le_of_ble_eq_true rfl) rfl (kk_i ?_)
  rintro x1 w1 ⟨e1, r1, f1⟩
  have hM1 := hM.hi f1
  refine r_aload_n 264 dL_law_263 rfl rfl ?_
  refine r_callV (y2 := mX7_fault) (as := []) 267 dL_law_264 ml_L_30 mv_X7_fault (M_fault (d := 11) (by omega) hM1 hS) (by omega) sh_50 ⟨_, rfl, rfl⟩ rfl (Nat.le_of_ble_eq_true rfl) rfl (kk_i ?_)
  rintro x2 w2 ⟨e2, r2, f2⟩
  refine r_icmp_eq 1292 270 dL_law_267 (by decide) rfl (fun _ => ?_) (fun z => absurd (e1.symm.trans e2) z)
  exact kk w2 _ ⟨r1.lo f2, r2, hS⟩
theorem g_rule (hi : i + 5 ≤ N) (hN : N ≤ 320) (h : lwI w s) (kk : ∀ w' s', lwI w' s' → WP mL_law 12 (lwT b N xs) 1292 [some (.ref 400), some (.ref 0), some (.ref 50), some (.int (nI i))] [] w') : WP mL_law 12 (lwT b N xs) 272 [some (.ref 400), some (.ref 0), some (.ref 50), some (.int (nI i))] [] w := by
  obtain ⟨hR, hM, hS⟩ := h
  refine r_aload_n 273 dL_law_272 rfl rfl ?_
  refine r_arg (a := 1) 274 275 276 277 278 dL_law_273 dL_law_274 dL_law_275 dL_law_276 dL_law_277 rfl rfl rfl rfl rfl rfl (by omega) hN ?_
  refine r_callV (y2 := mX6_rule) (as := [_]) 281 dL_law_278 ml_L_31 mv_X6_rule (C_rule (d := 11) (by omega) hR hS) (by omega) sh_0 ⟨_, rfl, rfl⟩ rfl (Nat.le_of_ble_eq_true rfl) rfl (kk_i ?_)
  rintro x1 w1 ⟨e1, r1, f1⟩
  have hM1 := hM.hi f1
  refine r_aload_n 282 dL_law_281 rfl rfl ?_
  refine r_arg (a := 1) 283 284 285 286 287 dL_law_282 dL_law_283 dL_law_284 dL_law_285 dL_law_286 rfl rfl rfl rfl rfl rfl (by omega) hN ?_
  refine r_callV (y2 := mX7_rule) (as := [_]) 290 dL_law_287 ml_L_34 mv_X7_rule (M_rule (d := 11) (by omega) hM1 hS) (by omega) sh_50 ⟨_, rfl, rfl⟩ rfl (Nat.le_of_ble_eq_true rfl) rfl (kk_i ?_)
  rintro x2 w2 ⟨e2, r2, f2⟩
  refine r_icmp_eq 1292 293 dL_law_290 (by decide) rfl (fun _ => ?_) (fun z => absurd (e1.symm.trans e2) z)
  exact kk w2 _ ⟨r1.lo f2, r2, hS⟩
theorem g_boat (hi : i + 5 ≤ N) (hN : N ≤ 320) (h : lwI w s) (kk : ∀ w' s', lwI w' s' → WP mL_law 12 (lwT b N xs) 1292 [some (.ref 400), some (.ref 0), some (.ref 50), some (.int (nI i))] [] w') : WP mL_law 12 (lwT b N xs) 295 [some (.ref 400), some (.ref 0), some (.ref 50), some (.int (nI i))] [] w := by
  obtain ⟨hR, hM, hS⟩ := h
  refine r_aload_n 296 dL_law_295 rfl rfl ?_
  refine r_arg (a := 1) 297 298 299 300 301 dL_law_296 dL_law_297 dL_law_298 dL_law_299 dL_law_300 rfl rfl rfl rfl rfl rfl (by omega) hN ?_
  refine r_arg (a := 2) 302 303 304 305 306 dL_law_301 dL_law_302 dL_law_303 dL_law_304 dL_law_305 rfl rfl rfl rfl rfl rfl (by omega) hN ?_
  refine r_callV (y2 := mX6_boat) (as := [_, _]) 309 dL_law_306 ml_L_35 mv_X6_boat (C_boat (d := 11) (by omega) hR hS) (by omega) sh_0 ⟨_, rfl, rfl⟩ rfl (Nat.le_of_ble_eq_true rfl) rfl (kk_i ?_)
  rintro x1 w1 ⟨e1, r1, f1⟩
  have hM1 := hM.hi f1
  refine r_aload_n 310 dL_law_309 rfl rfl ?_
  refine r_arg (a := 1) 311 312 313 314 315 dL_law_310 dL_law_311 dL_law_312 dL_law_313 dL_law_314 rfl rfl rfl rfl rfl rfl (by omega) hN ?_
  refine r_arg (a := 2) 316 317 318 319 320 dL_law_315 dL_law_316 dL_law_317 dL_law_318 dL_law_319 rfl rfl rfl rfl rfl rfl (by omega) hN ?_
  refine r_callV (y2 := mX7_boat) (as := [_, _]) 323 dL_law_320 ml_L_39 mv_X7_boat (M_boat (d := 11) (by omega) hM1 hS) (by omega) sh_50 ⟨_, rfl, rfl⟩ rfl (Nat.le_of_ble_eq_true rfl) rfl (kk_i ?_)
  rintro x2 w2 ⟨e2, r2, f2⟩
  refine r_icmp_eq 1292 326 dL_law_323 (by decide) rfl (fun _ => ?_) (fun z => absurd (e1.symm.trans e2) z)
  exact kk w2 _ ⟨r1.lo f2, r2, hS⟩
theorem g_set (hi : i + 5 ≤ N) (hN : N ≤ 320) (h : lwI w s) (kk : ∀ w' s', lwI w' s' → WP mL_law 12 (lwT b N xs) 1292 [some (.ref 400), some (.ref 0), some (.ref 50), some (.int (nI i))] [] w') : WP mL_law 12 (lwT b N xs) 328 [some (.ref 400), some (.ref 0), some (.ref 50), some (.int (nI i))] [] w := by
  obtain ⟨hR, hM, hS⟩ := h
  refine r_aload_n 329 dL_law_328 rfl rfl ?_
  refine r_arg (a := 1) 330 331 332 333 334 dL_law_329 dL_law_330 dL_law_331 dL_law_332 dL_law_333 rfl rfl rfl rfl rfl rfl (by omega) hN ?_
  refine r_arg (a := 2) 335 336 337 338 339 dL_law_334 dL_law_335 dL_law_336 dL_law_337 dL_law_338 rfl rfl rfl rfl rfl rfl (by omega) hN ?_
  refine r_callV (y2 := mX6_set) (as := [_, _]) 342 dL_law_339 ml_L_40 mv_X6_set (C_set (d := 11) (by omega) hR hS) (by omega) sh_0 ⟨_, rfl, rfl⟩ rfl (Nat.le_of_ble_eq_true rfl) rfl (kk_i ?_)
  rintro x1 w1 ⟨e1, r1, f1⟩
  have hM1 := hM.hi f1
  refine r_aload_n 343 dL_law_342 rfl rfl ?_
  refine r_arg (a := 1) 344 345 346 347 348 dL_law_343 dL_law_344 dL_law_345 dL_law_346 dL_law_347 rfl rfl rfl rfl rfl rfl (by omega) hN ?_
  refine r_arg (a := 2) 349 350 351 352 353 dL_law_348 dL_law_349 dL_law_350 dL_law_351 dL_law_352 rfl rfl rfl rfl rfl rfl (by omega) hN ?_
  refine r_callV (y2 := mX7_set) (as := [_, _]) 356 dL_law_353 ml_L_43 mv_X7_set (M_set (d := 11) (by omega) hM1 hS) (by omega) sh_50 ⟨_, rfl, rfl⟩ rfl (Nat.le_of_ble_eq_true rfl) rfl (kk_i ?_)
  rintro x2 w2 ⟨e2, r2, f2⟩
  refine r_icmp_eq 1292 359 dL_law_356 (by decide) rfl (fun _ => ?_) (fun z => absurd (e1.symm.trans e2) z)
  exact kk w2 _ ⟨r1.lo f2, r2, v_set hS⟩
theorem g_alter (hi : i + 5 ≤ N) (hN : N ≤ 320) (h : lwI w s) (kk : ∀ w' s', lwI w' s' → WP mL_law 12 (lwT b N xs) 1292 [some (.ref 400), some (.ref 0), some (.ref 50), some (.int (nI i))] [] w') : WP mL_law 12 (lwT b N xs) 361 [some (.ref 400), some (.ref 0), some (.ref 50), some (.int (nI i))] [] w := by
  obtain ⟨hR, hM, hS⟩ := h
  refine r_aload_n 362 dL_law_361 rfl rfl ?_
  refine r_arg (a := 1) 363 364 365 366 367 dL_law_362 dL_law_363 dL_law_364 dL_law_365 dL_law_366 rfl rfl rfl rfl rfl rfl (by omega) hN ?_
  refine r_arg (a := 2) 368 369 370 371 372 dL_law_367 dL_law_368 dL_law_369 dL_law_370 dL_law_371 rfl rfl rfl rfl rfl rfl (by omega) hN ?_
  refine r_arg (a := 3) 373 374 375 376 377 dL_law_372 dL_law_373 dL_law_374 dL_law_375 dL_law_376 rfl rfl rfl rfl rfl rfl (by omega) hN ?_
  refine r_callV (y2 := mX6_alter) (as := [_, _, _]) 380 dL_law_377 ml_L_44 mv_X6_alter (C_alter (d := 11) (by omega) hR hS) (by omega) sh_0 ⟨_, rfl, rfl⟩ rfl (Nat.le_of_ble_eq_true rfl) rfl (kk_i ?_)
  rintro x1 w1 ⟨e1, r1, f1⟩
  have hM1 := hM.hi f1
  refine r_aload_n 381 dL_law_380 rfl rfl ?_
  refine r_arg (a := 1) 382 383 384 385 386 dL_law_381 dL_law_382 dL_law_383 dL_law_384 dL_law_385 rfl rfl rfl rfl rfl rfl (by omega) hN ?_
  refine r_arg (a := 2) 387 388 389 390 391 dL_law_386 dL_law_387 dL_law_388 dL_law_389 dL_law_390 rfl rfl rfl rfl rfl rfl (by omega) hN ?_
  refine r_arg (a := 3) 392 393 394 395 396 dL_law_391 dL_law_392 dL_law_393 dL_law_394 dL_law_395 rfl rfl rfl rfl rfl rfl (by omega) hN ?_
  refine r_callV (y2 := mX7_alter) (as := [_, _, _]) 399 dL_law_396 ml_L_48 mv_X7_alter (M_alter (d := 11) (by omega) hM1 hS) (by omega) sh_50 ⟨_, rfl, rfl⟩ rfl (Nat.le_of_ble_eq_true rfl) rfl (kk_i ?_)
  rintro x2 w2 ⟨e2, r2, f2⟩
  refine r_icmp_eq 1292 402 dL_law_399 (by decide) rfl (fun _ => ?_) (fun z => absurd (e1.symm.trans e2) z)
  exact kk w2 _ ⟨r1.lo f2, r2, v_alter hS⟩
theorem g_lie (hi : i + 5 ≤ N) (hN : N ≤ 320) (h : lwI w s) (kk : ∀ w' s', lwI w' s' → WP mL_law 12 (lwT b N xs) 1292 [some (.ref 400), some (.ref 0), some (.ref 50), some (.int (nI i))] [] w') : WP mL_law 12 (lwT b N xs) 404 [some (.ref 400), some (.ref 0), some (.ref 50), some (.int (nI i))] [] w := by
  obtain ⟨hR, hM, hS⟩ := h
  refine r_aload_n 405 dL_law_404 rfl rfl ?_
  refine r_arg (a := 1) 406 407 408 409 410 dL_law_405 dL_law_406 dL_law_407 dL_law_408 dL_law_409 rfl rfl rfl rfl rfl rfl (by omega) hN ?_
  refine r_arg (a := 2) 411 412 413 414 415 dL_law_410 dL_law_411 dL_law_412 dL_law_413 dL_law_414 rfl rfl rfl rfl rfl rfl (by omega) hN ?_
  have hz0 : WP mL_law 12 (lwT b N xs) 423 [some (.ref 400), some (.ref 0), some (.ref 50), some (.int (nI i))] (.int (z_b ((xs (i + 2) != 0) = true)) :: .int (xs (i + 1)) :: .ref 0 :: []) w → WP mL_law 12 (lwT b N xs) 415 [some (.ref 400), some (.ref 0), some (.ref 50), some (.int (nI i))] (.int (xs (i + 2)) :: .int (xs (i + 1)) :: .ref 0 :: []) w := fun kk => by
    refine r_if_eq 422 418 dL_law_415 (by decide) rfl (fun z => ?_) (fun z => ?_)
    · refine r_iconst 423 dL_law_422 (v := 0) rfl rfl ?_
      rw [z_bn (by rw [z]; decide)] at kk; exact kk
    · refine r_iconst 419 dL_law_418 (v := 1) rfl rfl ?_
      refine r_goto 423 dL_law_419 (by decide) ?_
      rw [z_bp (by rw [bne_iff_ne]; exact z)] at kk; exact kk
  refine hz0 ?_
  refine r_callV (y2 := mX6_lie) (as := [_, _]) 426 dL_law_423 ml_L_49 mv_X6_lie (C_lie (d := 11) (by omega) hR hS) (by omega) sh_0 ⟨_, rfl, rfl⟩ rfl (Nat.le_of_ble_eq_true rfl) rfl (kk_i ?_)
  rintro x1 w1 ⟨e1, r1, f1⟩
  have hM1 := hM.hi f1
  refine r_aload_n 427 dL_law_426 rfl rfl ?_
  refine r_arg (a := 1) 428 429 430 431 432 dL_law_427 dL_law_428 dL_law_429 dL_law_430 dL_law_431 rfl rfl rfl rfl rfl rfl (by omega) hN ?_
  refine r_arg (a := 2) 433 434 435 436 437 dL_law_432 dL_law_433 dL_law_434 dL_law_435 dL_law_436 rfl rfl rfl rfl rfl rfl (by omega) hN ?_
  have hz1 : WP mL_law 12 (lwT b N xs) 445 [some (.ref 400), some (.ref 0), some (.ref 50), some (.int (nI i))] (.int (z_b ((xs (i + 2) != 0) = true)) :: .int (xs (i + 1)) :: .ref 50 :: [.int x1]) w1 → WP mL_law 12 (lwT b N xs) 437 [some (.ref 400), some (.ref 0), some (.ref 50), some (.int (nI i))] (.int (xs (i + 2)) :: .int (xs (i + 1)) :: .ref 50 :: [.int x1]) w1 := fun kk => by
    refine r_if_eq 444 440 dL_law_437 (by decide) rfl (fun z => ?_) (fun z => ?_)
    · refine r_iconst 445 dL_law_444 (v := 0) rfl rfl ?_
      rw [z_bn (by rw [z]; decide)] at kk; exact kk
    · refine r_iconst 441 dL_law_440 (v := 1) rfl rfl ?_
      refine r_goto 445 dL_law_441 (by decide) ?_
      rw [z_bp (by rw [bne_iff_ne]; exact z)] at kk; exact kk
  refine hz1 ?_
  refine r_callV (y2 := mX7_lie) (as := [_, _]) 448 dL_law_445 ml_L_53 mv_X7_lie (M_lie (d := 11) (by omega) hM1 hS) (by omega) sh_50 ⟨_, rfl, rfl⟩ rfl (Nat.le_of_ble_eq_true rfl) rfl (kk_i ?_)
  rintro x2 w2 ⟨e2, r2, f2⟩
  refine r_icmp_eq 1292 451 dL_law_448 (by decide) rfl (fun _ => ?_) (fun z => absurd (e1.symm.trans e2) z)
  exact kk w2 _ ⟨r1.lo f2, r2, v_lie hS⟩
theorem g_cross (hi : i + 5 ≤ N) (hN : N ≤ 320) (h : lwI w s) (kk : ∀ w' s', lwI w' s' → WP mL_law 12 (lwT b N xs) 1292 [some (.ref 400), some (.ref 0), some (.ref 50), some (.int (nI i))] [] w') : WP mL_law 12 (lwT b N xs) 453 [some (.ref 400), some (.ref 0), some (.ref 50), some (.int (nI i))] [] w := by
  obtain ⟨hR, hM, hS⟩ := h
  refine r_aload_n 454 dL_law_453 rfl rfl ?_
  refine r_arg (a := 1) 455 456 457 458 459 dL_law_454 dL_law_455 dL_law_456 dL_law_457 dL_law_458 rfl rfl rfl rfl rfl rfl (by omega) hN ?_
  refine r_callV (y2 := mX6_cross) (as := [_]) 462 dL_law_459 ml_L_54 mv_X6_cross (C_cross (d := 11) (by omega) hR hS) (by omega) sh_0 ⟨_, rfl, rfl⟩ rfl (Nat.le_of_ble_eq_true rfl) rfl (kk_i ?_)
  rintro x1 w1 ⟨e1, r1, f1⟩
  have hM1 := hM.hi f1
  refine r_aload_n 463 dL_law_462 rfl rfl ?_
  refine r_arg (a := 1) 464 465 466 467 468 dL_law_463 dL_law_464 dL_law_465 dL_law_466 dL_law_467 rfl rfl rfl rfl rfl rfl (by omega) hN ?_
  refine r_callV (y2 := mX7_cross) (as := [_]) 471 dL_law_468 ml_L_57 mv_X7_cross (M_cross (d := 11) (by omega) hM1 hS) (by omega) sh_50 ⟨_, rfl, rfl⟩ rfl (Nat.le_of_ble_eq_true rfl) rfl (kk_i ?_)
  rintro x2 w2 ⟨e2, r2, f2⟩
  refine r_icmp_eq 1292 474 dL_law_471 (by decide) rfl (fun _ => ?_) (fun z => absurd (e1.symm.trans e2) z)
  exact kk w2 _ ⟨r1.lo f2, r2, v_cross hS⟩
theorem g_passes (hi : i + 5 ≤ N) (hN : N ≤ 320) (h : lwI w s) (kk : ∀ w' s', lwI w' s' → WP mL_law 12 (lwT b N xs) 1292 [some (.ref 400), some (.ref 0), some (.ref 50), some (.int (nI i))] [] w') : WP mL_law 12 (lwT b N xs) 476 [some (.ref 400), some (.ref 0), some (.ref 50), some (.int (nI i))] [] w := by
  obtain ⟨hR, hM, hS⟩ := h
  refine r_aload_n 477 dL_law_476 rfl rfl ?_
  refine r_arg (a := 1) 478 479 480 481 482 dL_law_477 dL_law_478 dL_law_479 dL_law_480 dL_law_481 rfl rfl rfl rfl rfl rfl (by omega) hN ?_
  refine r_callV (y2 := mX6_passes) (as := [_]) 485 dL_law_482 ml_L_58 mv_X6_passes (C_passes (d := 11) (by omega) hR hS) (by omega) sh_0 ⟨_, rfl, rfl⟩ rfl (Nat.le_of_ble_eq_true rfl) rfl (kk_i ?_)
  rintro x1 w1 ⟨e1, r1, f1⟩
  have hM1 := hM.hi f1
  refine r_aload_n 486 dL_law_485 rfl rfl ?_
  refine r_arg (a := 1) 487 488 489 490 491 dL_law_486 dL_law_487 dL_law_488 dL_law_489 dL_law_490 rfl rfl rfl rfl rfl rfl (by omega) hN ?_
  refine r_callV (y2 := mX7_passes) (as := [_]) 494 dL_law_491 ml_L_61 mv_X7_passes (M_passes (d := 11) (by omega) hM1 hS) (by omega) sh_50 ⟨_, rfl, rfl⟩ rfl (Nat.le_of_ble_eq_true rfl) rfl (kk_i ?_)
  rintro x2 w2 ⟨e2, r2, f2⟩
  refine r_icmp_eq 1292 497 dL_law_494 (by decide) rfl (fun _ => ?_) (fun z => absurd (e1.symm.trans e2) z)
  exact kk w2 _ ⟨r1.lo f2, r2, hS⟩
theorem g_through (hi : i + 5 ≤ N) (hN : N ≤ 320) (h : lwI w s) (kk : ∀ w' s', lwI w' s' → WP mL_law 12 (lwT b N xs) 1292 [some (.ref 400), some (.ref 0), some (.ref 50), some (.int (nI i))] [] w') : WP mL_law 12 (lwT b N xs) 499 [some (.ref 400), some (.ref 0), some (.ref 50), some (.int (nI i))] [] w := by
  obtain ⟨hR, hM, hS⟩ := h
  refine r_aload_n 500 dL_law_499 rfl rfl ?_
  refine r_arg (a := 1) 501 502 503 504 505 dL_law_500 dL_law_501 dL_law_502 dL_law_503 dL_law_504 rfl rfl rfl rfl rfl rfl (by omega) hN ?_
  refine r_callV (y2 := mX6_through) (as := [_]) 508 dL_law_505 ml_L_62 mv_X6_through (C_through (d := 11) (by omega) hR hS) (by omega) sh_0 ⟨_, rfl, rfl⟩ rfl (Nat.le_of_ble_eq_true rfl) rfl (kk_i ?_)
  rintro x1 w1 ⟨e1, r1, f1⟩
  have hM1 := hM.hi f1
  refine r_aload_n 509 dL_law_508 rfl rfl ?_
  refine r_arg (a := 1) 510 511 512 513 514 dL_law_509 dL_law_510 dL_law_511 dL_law_512 dL_law_513 rfl rfl rfl rfl rfl rfl (by omega) hN ?_
  refine r_callV (y2 := mX7_through) (as := [_]) 517 dL_law_514 ml_L_65 mv_X7_through (M_through (d := 11) (by omega) hM1 hS) (by omega) sh_50 ⟨_, rfl, rfl⟩ rfl (Nat.le_of_ble_eq_true rfl) rfl (kk_i ?_)
  rintro x2 w2 ⟨e2, r2, f2⟩
  refine r_icmp_eq 1292 520 dL_law_517 (by decide) rfl (fun _ => ?_) (fun z => absurd (e1.symm.trans e2) z)
  exact kk w2 _ ⟨r1.lo f2, r2, hS⟩
theorem g_stood (hi : i + 5 ≤ N) (hN : N ≤ 320) (h : lwI w s) (kk : ∀ w' s', lwI w' s' → WP mL_law 12 (lwT b N xs) 1292 [some (.ref 400), some (.ref 0), some (.ref 50), some (.int (nI i))] [] w') : WP mL_law 12 (lwT b N xs) 522 [some (.ref 400), some (.ref 0), some (.ref 50), some (.int (nI i))] [] w := by
  obtain ⟨hR, hM, hS⟩ := h
  refine r_aload_n 523 dL_law_522 rfl rfl ?_
  refine r_arg (a := 1) 524 525 526 527 528 dL_law_523 dL_law_524 dL_law_525 dL_law_526 dL_law_527 rfl rfl rfl rfl rfl rfl (by omega) hN ?_
  refine r_callV (y2 := mX6_stood) (as := [_]) 531 dL_law_528 ml_L_66 mv_X6_stood (C_stood (d := 11) (by omega) hR hS) (by omega) sh_0 ⟨_, rfl, rfl⟩ rfl (Nat.le_of_ble_eq_true rfl) rfl (kk_i ?_)
  rintro x1 w1 ⟨e1, r1, f1⟩
  have hM1 := hM.hi f1
  refine r_aload_n 532 dL_law_531 rfl rfl ?_
  refine r_arg (a := 1) 533 534 535 536 537 dL_law_532 dL_law_533 dL_law_534 dL_law_535 dL_law_536 rfl rfl rfl rfl rfl rfl (by omega) hN ?_
  refine r_callV (y2 := mX7_stood) (as := [_]) 540 dL_law_537 ml_L_69 mv_X7_stood (M_stood (d := 11) (by omega) hM1 hS) (by omega) sh_50 ⟨_, rfl, rfl⟩ rfl (Nat.le_of_ble_eq_true rfl) rfl (kk_i ?_)
  rintro x2 w2 ⟨e2, r2, f2⟩
  refine r_icmp_eq 1292 543 dL_law_540 (by decide) rfl (fun _ => ?_) (fun z => absurd (e1.symm.trans e2) z)
  exact kk w2 _ ⟨r1.lo f2, r2, hS⟩
theorem g_day (hi : i + 5 ≤ N) (hN : N ≤ 320) (h : lwI w s) (kk : ∀ w' s', lwI w' s' → WP mL_law 12 (lwT b N xs) 1292 [some (.ref 400), some (.ref 0), some (.ref 50), some (.int (nI i))] [] w') : WP mL_law 12 (lwT b N xs) 545 [some (.ref 400), some (.ref 0), some (.ref 50), some (.int (nI i))] [] w := by
  obtain ⟨hR, hM, hS⟩ := h
  refine r_aload_n 546 dL_law_545 rfl rfl ?_
  refine r_arg (a := 1) 547 548 549 550 551 dL_law_546 dL_law_547 dL_law_548 dL_law_549 dL_law_550 rfl rfl rfl rfl rfl rfl (by omega) hN ?_
  refine r_callV (y2 := mX6_day) (as := [_]) 554 dL_law_551 ml_L_70 mv_X6_day (C_day (d := 11) (by omega) hR hS) (by omega) sh_0 ⟨_, rfl, rfl⟩ rfl (Nat.le_of_ble_eq_true rfl) rfl (kk_i ?_)
  rintro x1 w1 ⟨e1, r1, f1⟩
  have hM1 := hM.hi f1
  refine r_aload_n 555 dL_law_554 rfl rfl ?_
  refine r_arg (a := 1) 556 557 558 559 560 dL_law_555 dL_law_556 dL_law_557 dL_law_558 dL_law_559 rfl rfl rfl rfl rfl rfl (by omega) hN ?_
  refine r_callV (y2 := mX7_day) (as := [_]) 563 dL_law_560 ml_L_73 mv_X7_day (M_day (d := 11) (by omega) hM1 hS) (by omega) sh_50 ⟨_, rfl, rfl⟩ rfl (Nat.le_of_ble_eq_true rfl) rfl (kk_i ?_)
  rintro x2 w2 ⟨e2, r2, f2⟩
  refine r_icmp_eq 1292 566 dL_law_563 (by decide) rfl (fun _ => ?_) (fun z => absurd (e1.symm.trans e2) z)
  exact kk w2 _ ⟨r1.lo f2, r2, hS⟩
theorem g_table (hi : i + 5 ≤ N) (hN : N ≤ 320) (h : lwI w s) (kk : ∀ w' s', lwI w' s' → WP mL_law 12 (lwT b N xs) 1292 [some (.ref 400), some (.ref 0), some (.ref 50), some (.int (nI i))] [] w') : WP mL_law 12 (lwT b N xs) 568 [some (.ref 400), some (.ref 0), some (.ref 50), some (.int (nI i))] [] w := by
  obtain ⟨hR, hM, hS⟩ := h
  refine r_aload_n 569 dL_law_568 rfl rfl ?_
  refine r_arg (a := 1) 570 571 572 573 574 dL_law_569 dL_law_570 dL_law_571 dL_law_572 dL_law_573 rfl rfl rfl rfl rfl rfl (by omega) hN ?_
  refine r_arg (a := 2) 575 576 577 578 579 dL_law_574 dL_law_575 dL_law_576 dL_law_577 dL_law_578 rfl rfl rfl rfl rfl rfl (by omega) hN ?_
  refine r_callV (y2 := mX6_table) (as := [_, _]) 582 dL_law_579 ml_L_74 mv_X6_table (C_table (d := 11) (by omega) hR hS) (by omega) sh_0 ⟨_, rfl, rfl⟩ rfl (Nat.le_of_ble_eq_true rfl) rfl (kk_i ?_)
  rintro x1 w1 ⟨e1, r1, f1⟩
  have hM1 := hM.hi f1
  refine r_aload_n 583 dL_law_582 rfl rfl ?_
  refine r_arg (a := 1) 584 585 586 587 588 dL_law_583 dL_law_584 dL_law_585 dL_law_586 dL_law_587 rfl rfl rfl rfl rfl rfl (by omega) hN ?_
  refine r_arg (a := 2) 589 590 591 592 593 dL_law_588 dL_law_589 dL_law_590 dL_law_591 dL_law_592 rfl rfl rfl rfl rfl rfl (by omega) hN ?_
  refine r_callV (y2 := mX7_table) (as := [_, _]) 596 dL_law_593 ml_L_77 mv_X7_table (M_table (d := 11) (by omega) hM1 hS) (by omega) sh_50 ⟨_, rfl, rfl⟩ rfl (Nat.le_of_ble_eq_true rfl) rfl (kk_i ?_)
  rintro x2 w2 ⟨e2, r2, f2⟩
  refine r_icmp_eq 1292 599 dL_law_596 (by decide) rfl (fun _ => ?_) (fun z => absurd (e1.symm.trans e2) z)
  exact kk w2 _ ⟨r1.lo f2, r2, hS⟩
theorem g_best (hi : i + 5 ≤ N) (hN : N ≤ 320) (h : lwI w s) (kk : ∀ w' s', lwI w' s' → WP mL_law 12 (lwT b N xs) 1292 [some (.ref 400), some (.ref 0), some (.ref 50), some (.int (nI i))] [] w') : WP mL_law 12 (lwT b N xs) 601 [some (.ref 400), some (.ref 0), some (.ref 50), some (.int (nI i))] [] w := by
  obtain ⟨hR, hM, hS⟩ := h
  refine r_aload_n 602 dL_law_601 rfl rfl ?_
  refine r_arg (a := 1) 603 604 605 606 607 dL_law_602 dL_law_603 dL_law_604 dL_law_605 dL_law_606 rfl rfl rfl rfl rfl rfl (by omega) hN ?_
  refine r_callV (y2 := mX6_best) (as := [_]) 610 dL_law_607 ml_L_78 mv_X6_best (C_best (d := 11) (by omega) hR hS) (by omega) sh_0 ⟨_, rfl, rfl⟩ rfl (Nat.le_of_ble_eq_true rfl) rfl (kk_i ?_)
  rintro x1 w1 ⟨e1, r1, f1⟩
  have hM1 := hM.hi f1
  refine r_aload_n 611 dL_law_610 rfl rfl ?_
  refine r_arg (a := 1) 612 613 614 615 616 dL_law_611 dL_law_612 dL_law_613 dL_law_614 dL_law_615 rfl rfl rfl rfl rfl rfl (by omega) hN ?_
  refine r_callV (y2 := mX7_best) (as := [_]) 619 dL_law_616 ml_L_81 mv_X7_best (M_best (d := 11) (by omega) hM1 hS) (by omega) sh_50 ⟨_, rfl, rfl⟩ rfl (Nat.le_of_ble_eq_true rfl) rfl (kk_i ?_)
  rintro x2 w2 ⟨e2, r2, f2⟩
  refine r_icmp_eq 1292 622 dL_law_619 (by decide) rfl (fun _ => ?_) (fun z => absurd (e1.symm.trans e2) z)
  exact kk w2 _ ⟨r1.lo f2, r2, hS⟩
theorem g_order (hi : i + 5 ≤ N) (hN : N ≤ 320) (h : lwI w s) (kk : ∀ w' s', lwI w' s' → WP mL_law 12 (lwT b N xs) 1292 [some (.ref 400), some (.ref 0), some (.ref 50), some (.int (nI i))] [] w') : WP mL_law 12 (lwT b N xs) 624 [some (.ref 400), some (.ref 0), some (.ref 50), some (.int (nI i))] [] w := by
  obtain ⟨hR, hM, hS⟩ := h
  refine r_aload_n 625 dL_law_624 rfl rfl ?_
  refine r_arg (a := 1) 626 627 628 629 630 dL_law_625 dL_law_626 dL_law_627 dL_law_628 dL_law_629 rfl rfl rfl rfl rfl rfl (by omega) hN ?_
  refine r_callV (y2 := mX6_order) (as := [_]) 633 dL_law_630 ml_L_82 mv_X6_order (C_order (d := 11) (by omega) hR hS) (by omega) sh_0 ⟨_, rfl, rfl⟩ rfl (Nat.le_of_ble_eq_true rfl) rfl (kk_i ?_)
  rintro x1 w1 ⟨e1, r1, f1⟩
  have hM1 := hM.hi f1
  refine r_aload_n 634 dL_law_633 rfl rfl ?_
  refine r_arg (a := 1) 635 636 637 638 639 dL_law_634 dL_law_635 dL_law_636 dL_law_637 dL_law_638 rfl rfl rfl rfl rfl rfl (by omega) hN ?_
  refine r_callV (y2 := mX7_order) (as := [_]) 642 dL_law_639 ml_L_85 mv_X7_order (M_order (d := 11) (by omega) hM1 hS) (by omega) sh_50 ⟨_, rfl, rfl⟩ rfl (Nat.le_of_ble_eq_true rfl) rfl (kk_i ?_)
  rintro x2 w2 ⟨e2, r2, f2⟩
  refine r_icmp_eq 1292 645 dL_law_642 (by decide) rfl (fun _ => ?_) (fun z => absurd (e1.symm.trans e2) z)
  exact kk w2 _ ⟨r1.lo f2, r2, hS⟩
theorem g_firsts (hi : i + 5 ≤ N) (hN : N ≤ 320) (h : lwI w s) (kk : ∀ w' s', lwI w' s' → WP mL_law 12 (lwT b N xs) 1292 [some (.ref 400), some (.ref 0), some (.ref 50), some (.int (nI i))] [] w') : WP mL_law 12 (lwT b N xs) 647 [some (.ref 400), some (.ref 0), some (.ref 50), some (.int (nI i))] [] w := by
  obtain ⟨hR, hM, hS⟩ := h
  refine r_aload_n 648 dL_law_647 rfl rfl ?_
  refine r_arg (a := 1) 649 650 651 652 653 dL_law_648 dL_law_649 dL_law_650 dL_law_651 dL_law_652 rfl rfl rfl rfl rfl rfl (by omega) hN ?_
  refine r_callV (y2 := mX6_firsts) (as := [_]) 656 dL_law_653 ml_L_86 mv_X6_firsts (C_firsts (d := 11) (by omega) hR hS) (by omega) sh_0 ⟨_, rfl, rfl⟩ rfl (Nat.le_of_ble_eq_true rfl) rfl (kk_i ?_)
  rintro x1 w1 ⟨e1, r1, f1⟩
  have hM1 := hM.hi f1
  refine r_aload_n 657 dL_law_656 rfl rfl ?_
  refine r_arg (a := 1) 658 659 660 661 662 dL_law_657 dL_law_658 dL_law_659 dL_law_660 dL_law_661 rfl rfl rfl rfl rfl rfl (by omega) hN ?_
  refine r_callV (y2 := mX7_firsts) (as := [_]) 665 dL_law_662 ml_L_89 mv_X7_firsts (M_firsts (d := 11) (by omega) hM1 hS) (by omega) sh_50 ⟨_, rfl, rfl⟩ rfl (Nat.le_of_ble_eq_true rfl) rfl (kk_i ?_)
  rintro x2 w2 ⟨e2, r2, f2⟩
  refine r_icmp_eq 1292 668 dL_law_665 (by decide) rfl (fun _ => ?_) (fun z => absurd (e1.symm.trans e2) z)
  exact kk w2 _ ⟨r1.lo f2, r2, hS⟩
theorem g_gain (hi : i + 5 ≤ N) (hN : N ≤ 320) (h : lwI w s) (kk : ∀ w' s', lwI w' s' → WP mL_law 12 (lwT b N xs) 1292 [some (.ref 400), some (.ref 0), some (.ref 50), some (.int (nI i))] [] w') : WP mL_law 12 (lwT b N xs) 670 [some (.ref 400), some (.ref 0), some (.ref 50), some (.int (nI i))] [] w := by
  obtain ⟨hR, hM, hS⟩ := h
  refine r_aload_n 671 dL_law_670 rfl rfl ?_
  refine r_arg (a := 1) 672 673 674 675 676 dL_law_671 dL_law_672 dL_law_673 dL_law_674 dL_law_675 rfl rfl rfl rfl rfl rfl (by omega) hN ?_
  refine r_callV (y2 := mX6_gain) (as := [_]) 679 dL_law_676 ml_L_90 mv_X6_gain (C_gain (d := 11) (by omega) hR hS) (by omega) sh_0 ⟨_, rfl, rfl⟩ rfl (Nat.le_of_ble_eq_true rfl) rfl (kk_i ?_)
  rintro x1 w1 ⟨e1, r1, f1⟩
  have hM1 := hM.hi f1
  refine r_aload_n 680 dL_law_679 rfl rfl ?_
  refine r_arg (a := 1) 681 682 683 684 685 dL_law_680 dL_law_681 dL_law_682 dL_law_683 dL_law_684 rfl rfl rfl rfl rfl rfl (by omega) hN ?_
  refine r_callV (y2 := mX7_gain) (as := [_]) 688 dL_law_685 ml_L_93 mv_X7_gain (M_gain (d := 11) (by omega) hM1 hS) (by omega) sh_50 ⟨_, rfl, rfl⟩ rfl (Nat.le_of_ble_eq_true rfl) rfl (kk_i ?_)
  rintro x2 w2 ⟨e2, r2, f2⟩
  refine r_icmp_eq 1292 691 dL_law_688 (by decide) rfl (fun _ => ?_) (fun z => absurd (e1.symm.trans e2) z)
  exact kk w2 _ ⟨r1.lo f2, r2, hS⟩
theorem g_calm (hi : i + 5 ≤ N) (hN : N ≤ 320) (h : lwI w s) (kk : ∀ w' s', lwI w' s' → WP mL_law 12 (lwT b N xs) 1292 [some (.ref 400), some (.ref 0), some (.ref 50), some (.int (nI i))] [] w') : WP mL_law 12 (lwT b N xs) 693 [some (.ref 400), some (.ref 0), some (.ref 50), some (.int (nI i))] [] w := by
  obtain ⟨hR, hM, hS⟩ := h
  refine r_aload_n 694 dL_law_693 rfl rfl ?_
  refine r_callV (y2 := mX6_calm) (as := []) 697 dL_law_694 ml_L_94 mv_X6_calm (C_calm (d := 11) (by omega) hR hS) (by omega) sh_0 ⟨_, rfl, rfl⟩ rfl (Nat.le_of_ble_eq_true rfl) rfl (kk_i ?_)
  rintro x1 w1 ⟨e1, r1, f1⟩
  have hM1 := hM.hi f1
  refine r_aload_n 698 dL_law_697 rfl rfl ?_
  refine r_callV (y2 := mX7_calm) (as := []) 701 dL_law_698 ml_L_97 mv_X7_calm (M_calm (d := 11) (by omega) hM1 hS) (by omega) sh_50 ⟨_, rfl, rfl⟩ rfl (Nat.le_of_ble_eq_true rfl) rfl (kk_i ?_)
  rintro x2 w2 ⟨e2, r2, f2⟩
  refine r_icmp_eq 1292 704 dL_law_701 (by decide) rfl (fun _ => ?_) (fun z => absurd (e1.symm.trans e2) z)
  exact kk w2 _ ⟨r1.lo f2, r2, hS⟩
theorem g_rests (hi : i + 5 ≤ N) (hN : N ≤ 320) (h : lwI w s) (kk : ∀ w' s', lwI w' s' → WP mL_law 12 (lwT b N xs) 1292 [some (.ref 400), some (.ref 0), some (.ref 50), some (.int (nI i))] [] w') : WP mL_law 12 (lwT b N xs) 706 [some (.ref 400), some (.ref 0), some (.ref 50), some (.int (nI i))] [] w := by
  obtain ⟨hR, hM, hS⟩ := h
  refine r_aload_n 707 dL_law_706 rfl rfl ?_
  refine r_arg (a := 1) 708 709 710 711 712 dL_law_707 dL_law_708 dL_law_709 dL_law_710 dL_law_711 rfl rfl rfl rfl rfl rfl (by omega) hN ?_
  refine r_callV (y2 := mX6_rests) (as := [_]) 715 dL_law_712 ml_L_98 mv_X6_rests (C_rests (d := 11) (by omega) hR hS) (by omega) sh_0 ⟨_, rfl, rfl⟩ rfl (Nat.le_of_ble_eq_true rfl) rfl (kk_i ?_)
  rintro x1 w1 ⟨e1, r1, f1⟩
  have hM1 := hM.hi f1
  refine r_aload_n 716 dL_law_715 rfl rfl ?_
  refine r_arg (a := 1) 717 718 719 720 721 dL_law_716 dL_law_717 dL_law_718 dL_law_719 dL_law_720 rfl rfl rfl rfl rfl rfl (by omega) hN ?_
  refine r_callV (y2 := mX7_rests) (as := [_]) 724 dL_law_721 ml_L_101 mv_X7_rests (M_rests (d := 11) (by omega) hM1 hS) (by omega) sh_50 ⟨_, rfl, rfl⟩ rfl (Nat.le_of_ble_eq_true rfl) rfl (kk_i ?_)
  rintro x2 w2 ⟨e2, r2, f2⟩
  refine r_icmp_eq 1292 727 dL_law_724 (by decide) rfl (fun _ => ?_) (fun z => absurd (e1.symm.trans e2) z)
  exact kk w2 _ ⟨r1.lo f2, r2, hS⟩
theorem g_boy (hi : i + 5 ≤ N) (hN : N ≤ 320) (h : lwI w s) (kk : ∀ w' s', lwI w' s' → WP mL_law 12 (lwT b N xs) 1292 [some (.ref 400), some (.ref 0), some (.ref 50), some (.int (nI i))] [] w') : WP mL_law 12 (lwT b N xs) 729 [some (.ref 400), some (.ref 0), some (.ref 50), some (.int (nI i))] [] w := by
  obtain ⟨hR, hM, hS⟩ := h
  refine r_aload_n 730 dL_law_729 rfl rfl ?_
  refine r_arg (a := 1) 731 732 733 734 735 dL_law_730 dL_law_731 dL_law_732 dL_law_733 dL_law_734 rfl rfl rfl rfl rfl rfl (by omega) hN ?_
  refine r_arg (a := 2) 736 737 738 739 740 dL_law_735 dL_law_736 dL_law_737 dL_law_738 dL_law_739 rfl rfl rfl rfl rfl rfl (by omega) hN ?_
  refine r_callV (y2 := mX6_boy) (as := [_, _]) 743 dL_law_740 ml_L_102 mv_X6_boy (C_boy (d := 11) (by omega) hR hS) (by omega) sh_0 ⟨_, rfl, rfl⟩ rfl (Nat.le_of_ble_eq_true rfl) rfl (kk_i ?_)
  rintro x1 w1 ⟨e1, r1, f1⟩
  have hM1 := hM.hi f1
  refine r_aload_n 744 dL_law_743 rfl rfl ?_
  refine r_arg (a := 1) 745 746 747 748 749 dL_law_744 dL_law_745 dL_law_746 dL_law_747 dL_law_748 rfl rfl rfl rfl rfl rfl (by omega) hN ?_
  refine r_arg (a := 2) 750 751 752 753 754 dL_law_749 dL_law_750 dL_law_751 dL_law_752 dL_law_753 rfl rfl rfl rfl rfl rfl (by omega) hN ?_
  refine r_callV (y2 := mX7_boy) (as := [_, _]) 757 dL_law_754 ml_L_105 mv_X7_boy (M_boy (d := 11) (by omega) hM1 hS) (by omega) sh_50 ⟨_, rfl, rfl⟩ rfl (Nat.le_of_ble_eq_true rfl) rfl (kk_i ?_)
  rintro x2 w2 ⟨e2, r2, f2⟩
  refine r_icmp_eq 1292 760 dL_law_757 (by decide) rfl (fun _ => ?_) (fun z => absurd (e1.symm.trans e2) z)
  exact kk w2 _ ⟨r1.lo f2, r2, hS⟩
theorem g_post (hi : i + 5 ≤ N) (hN : N ≤ 320) (h : lwI w s) (kk : ∀ w' s', lwI w' s' → WP mL_law 12 (lwT b N xs) 1292 [some (.ref 400), some (.ref 0), some (.ref 50), some (.int (nI i))] [] w') : WP mL_law 12 (lwT b N xs) 762 [some (.ref 400), some (.ref 0), some (.ref 50), some (.int (nI i))] [] w := by
  obtain ⟨hR, hM, hS⟩ := h
  refine r_aload_n 763 dL_law_762 rfl rfl ?_
  refine r_arg (a := 1) 764 765 766 767 768 dL_law_763 dL_law_764 dL_law_765 dL_law_766 dL_law_767 rfl rfl rfl rfl rfl rfl (by omega) hN ?_
  refine r_callV (y2 := mX6_post) (as := [_]) 771 dL_law_768 ml_L_106 mv_X6_post (C_post (d := 11) (by omega) hR hS) (by omega) sh_0 ⟨_, rfl, rfl⟩ rfl (Nat.le_of_ble_eq_true rfl) rfl (kk_i ?_)
  rintro x1 w1 ⟨e1, r1, f1⟩
  have hM1 := hM.hi f1
  refine r_aload_n 772 dL_law_771 rfl rfl ?_
  refine r_arg (a := 1) 773 774 775 776 777 dL_law_772 dL_law_773 dL_law_774 dL_law_775 dL_law_776 rfl rfl rfl rfl rfl rfl (by omega) hN ?_
  refine r_callV (y2 := mX7_post) (as := [_]) 780 dL_law_777 ml_L_109 mv_X7_post (M_post (d := 11) (by omega) hM1 hS) (by omega) sh_50 ⟨_, rfl, rfl⟩ rfl (Nat.le_of_ble_eq_true rfl) rfl (kk_i ?_)
  rintro x2 w2 ⟨e2, r2, f2⟩
  refine r_icmp_eq 1292 783 dL_law_780 (by decide) rfl (fun _ => ?_) (fun z => absurd (e1.symm.trans e2) z)
  exact kk w2 _ ⟨r1.lo f2, r2, hS⟩
theorem g_late (hi : i + 5 ≤ N) (hN : N ≤ 320) (h : lwI w s) (kk : ∀ w' s', lwI w' s' → WP mL_law 12 (lwT b N xs) 1292 [some (.ref 400), some (.ref 0), some (.ref 50), some (.int (nI i))] [] w') : WP mL_law 12 (lwT b N xs) 785 [some (.ref 400), some (.ref 0), some (.ref 50), some (.int (nI i))] [] w := by
  obtain ⟨hR, hM, hS⟩ := h
  refine r_aload_n 786 dL_law_785 rfl rfl ?_
  refine r_arg (a := 1) 787 788 789 790 791 dL_law_786 dL_law_787 dL_law_788 dL_law_789 dL_law_790 rfl rfl rfl rfl rfl rfl (by omega) hN ?_
  refine r_callV (y2 := mX6_late) (as := [_]) 794 dL_law_791 ml_L_110 mv_X6_late (C_late (d := 11) (by omega) hR hS) (by omega) sh_0 ⟨_, rfl, rfl⟩ rfl (Nat.le_of_ble_eq_true rfl) rfl (kk_i ?_)
  rintro x1 w1 ⟨e1, r1, f1⟩
  have hM1 := hM.hi f1
  refine r_aload_n 795 dL_law_794 rfl rfl ?_
  refine r_arg (a := 1) 796 797 798 799 800 dL_law_795 dL_law_796 dL_law_797 dL_law_798 dL_law_799 rfl rfl rfl rfl rfl rfl (by omega) hN ?_
  refine r_callV (y2 := mX7_late) (as := [_]) 803 dL_law_800 ml_L_113 mv_X7_late (M_late (d := 11) (by omega) hM1 hS) (by omega) sh_50 ⟨_, rfl, rfl⟩ rfl (Nat.le_of_ble_eq_true rfl) rfl (kk_i ?_)
  rintro x2 w2 ⟨e2, r2, f2⟩
  refine r_icmp_eq 1292 806 dL_law_803 (by decide) rfl (fun _ => ?_) (fun z => absurd (e1.symm.trans e2) z)
  exact kk w2 _ ⟨r1.lo f2, r2, hS⟩
theorem g_deal (hi : i + 5 ≤ N) (hN : N ≤ 320) (h : lwI w s) (kk : ∀ w' s', lwI w' s' → WP mL_law 12 (lwT b N xs) 1292 [some (.ref 400), some (.ref 0), some (.ref 50), some (.int (nI i))] [] w') : WP mL_law 12 (lwT b N xs) 808 [some (.ref 400), some (.ref 0), some (.ref 50), some (.int (nI i))] [] w := by
  obtain ⟨hR, hM, hS⟩ := h
  refine r_aload_n 809 dL_law_808 rfl rfl ?_
  refine r_arg (a := 1) 810 811 812 813 814 dL_law_809 dL_law_810 dL_law_811 dL_law_812 dL_law_813 rfl rfl rfl rfl rfl rfl (by omega) hN ?_
  refine r_arg (a := 2) 815 816 817 818 819 dL_law_814 dL_law_815 dL_law_816 dL_law_817 dL_law_818 rfl rfl rfl rfl rfl rfl (by omega) hN ?_
  refine r_arg (a := 3) 820 821 822 823 824 dL_law_819 dL_law_820 dL_law_821 dL_law_822 dL_law_823 rfl rfl rfl rfl rfl rfl (by omega) hN ?_
  refine r_callV (y2 := mX6_deal) (as := [_, _, _]) 827 dL_law_824 ml_L_114 mv_X6_deal (C_deal (d := 11) (by omega) hR hS) (by omega) sh_0 ⟨_, rfl, rfl⟩ rfl (Nat.le_of_ble_eq_true rfl) rfl (kk_i ?_)
  rintro x1 w1 ⟨e1, r1, f1⟩
  have hM1 := hM.hi f1
  refine r_aload_n 828 dL_law_827 rfl rfl ?_
  refine r_arg (a := 1) 829 830 831 832 833 dL_law_828 dL_law_829 dL_law_830 dL_law_831 dL_law_832 rfl rfl rfl rfl rfl rfl (by omega) hN ?_
  refine r_arg (a := 2) 834 835 836 837 838 dL_law_833 dL_law_834 dL_law_835 dL_law_836 dL_law_837 rfl rfl rfl rfl rfl rfl (by omega) hN ?_
  refine r_arg (a := 3) 839 840 841 842 843 dL_law_838 dL_law_839 dL_law_840 dL_law_841 dL_law_842 rfl rfl rfl rfl rfl rfl (by omega) hN ?_
  refine r_callV (y2 := mX7_deal) (as := [_, _, _]) 846 dL_law_843 ml_L_117 mv_X7_deal (M_deal (d := 11) (by omega) hM1 hS) (by omega) sh_50 ⟨_, rfl, rfl⟩ rfl (Nat.le_of_ble_eq_true rfl) rfl (kk_i ?_)
  rintro x2 w2 ⟨e2, r2, f2⟩
  refine r_icmp_eq 1292 849 dL_law_846 (by decide) rfl (fun _ => ?_) (fun z => absurd (e1.symm.trans e2) z)
  exact kk w2 _ ⟨r1.lo f2, r2, hS⟩
theorem g_mean (hi : i + 5 ≤ N) (hN : N ≤ 320) (h : lwI w s) (kk : ∀ w' s', lwI w' s' → WP mL_law 12 (lwT b N xs) 1292 [some (.ref 400), some (.ref 0), some (.ref 50), some (.int (nI i))] [] w') : WP mL_law 12 (lwT b N xs) 851 [some (.ref 400), some (.ref 0), some (.ref 50), some (.int (nI i))] [] w := by
  obtain ⟨hR, hM, hS⟩ := h
  refine r_aload_n 852 dL_law_851 rfl rfl ?_
  refine r_arg (a := 1) 853 854 855 856 857 dL_law_852 dL_law_853 dL_law_854 dL_law_855 dL_law_856 rfl rfl rfl rfl rfl rfl (by omega) hN ?_
  refine r_arg (a := 2) 858 859 860 861 862 dL_law_857 dL_law_858 dL_law_859 dL_law_860 dL_law_861 rfl rfl rfl rfl rfl rfl (by omega) hN ?_
  refine r_arg (a := 3) 863 864 865 866 867 dL_law_862 dL_law_863 dL_law_864 dL_law_865 dL_law_866 rfl rfl rfl rfl rfl rfl (by omega) hN ?_
  refine r_callV (y2 := mX6_mean) (as := [_, _, _]) 870 dL_law_867 ml_L_118 mv_X6_mean (C_mean (d := 11) (by omega) hR hS) (by omega) sh_0 ⟨_, rfl, rfl⟩ rfl (Nat.le_of_ble_eq_true rfl) rfl (kk_l ?_)
  rintro x1 w1 ⟨e1, r1, f1⟩
  have hM1 := hM.hi f1
  refine r_aload_n 871 dL_law_870 rfl rfl ?_
  refine r_arg (a := 1) 872 873 874 875 876 dL_law_871 dL_law_872 dL_law_873 dL_law_874 dL_law_875 rfl rfl rfl rfl rfl rfl (by omega) hN ?_
  refine r_arg (a := 2) 877 878 879 880 881 dL_law_876 dL_law_877 dL_law_878 dL_law_879 dL_law_880 rfl rfl rfl rfl rfl rfl (by omega) hN ?_
  refine r_arg (a := 3) 882 883 884 885 886 dL_law_881 dL_law_882 dL_law_883 dL_law_884 dL_law_885 rfl rfl rfl rfl rfl rfl (by omega) hN ?_
  refine r_callV (y2 := mX7_mean) (as := [_, _, _]) 889 dL_law_886 ml_L_122 mv_X7_mean (M_mean (d := 11) (by omega) hM1 hS) (by omega) sh_50 ⟨_, rfl, rfl⟩ rfl (Nat.le_of_ble_eq_true rfl) rfl (kk_l ?_)
  rintro x2 w2 ⟨e2, r2, f2⟩
  refine r_lcmp 890 dL_law_889 rfl ?_
  refine r_if_eq 1292 893 dL_law_890 (by decide) rfl (fun _ => ?_) (fun z => absurd (by rw [← e1, ← e2]; exact lg_same _) z)
  exact kk w2 _ ⟨r1.lo f2, r2, hS⟩
theorem g_luck (hi : i + 5 ≤ N) (hN : N ≤ 320) (h : lwI w s) (kk : ∀ w' s', lwI w' s' → WP mL_law 12 (lwT b N xs) 1292 [some (.ref 400), some (.ref 0), some (.ref 50), some (.int (nI i))] [] w') : WP mL_law 12 (lwT b N xs) 895 [some (.ref 400), some (.ref 0), some (.ref 50), some (.int (nI i))] [] w := by
  obtain ⟨hR, hM, hS⟩ := h
  refine r_aload_n 896 dL_law_895 rfl rfl ?_
  refine r_arg (a := 1) 897 898 899 900 901 dL_law_896 dL_law_897 dL_law_898 dL_law_899 dL_law_900 rfl rfl rfl rfl rfl rfl (by omega) hN ?_
  refine r_arg (a := 2) 902 903 904 905 906 dL_law_901 dL_law_902 dL_law_903 dL_law_904 dL_law_905 rfl rfl rfl rfl rfl rfl (by omega) hN ?_
  refine r_arg (a := 3) 907 908 909 910 911 dL_law_906 dL_law_907 dL_law_908 dL_law_909 dL_law_910 rfl rfl rfl rfl rfl rfl (by omega) hN ?_
  refine r_arg (a := 4) 912 913 914 915 916 dL_law_911 dL_law_912 dL_law_913 dL_law_914 dL_law_915 rfl rfl rfl rfl rfl rfl (by omega) hN ?_
  refine r_callV (y2 := mX6_luck) (as := [_, _, _, _]) 919 dL_law_916 ml_L_123 mv_X6_luck (C_luck (d := 11) (by omega) hR hS) (by omega) sh_0 ⟨_, rfl, rfl⟩ rfl (Nat.le_of_ble_eq_true rfl) rfl (kk_l ?_)
  rintro x1 w1 ⟨e1, r1, f1⟩
  have hM1 := hM.hi f1
  refine r_aload_n 920 dL_law_919 rfl rfl ?_
  refine r_arg (a := 1) 921 922 923 924 925 dL_law_920 dL_law_921 dL_law_922 dL_law_923 dL_law_924 rfl rfl rfl rfl rfl rfl (by omega) hN ?_
  refine r_arg (a := 2) 926 927 928 929 930 dL_law_925 dL_law_926 dL_law_927 dL_law_928 dL_law_929 rfl rfl rfl rfl rfl rfl (by omega) hN ?_
  refine r_arg (a := 3) 931 932 933 934 935 dL_law_930 dL_law_931 dL_law_932 dL_law_933 dL_law_934 rfl rfl rfl rfl rfl rfl (by omega) hN ?_
  refine r_arg (a := 4) 936 937 938 939 940 dL_law_935 dL_law_936 dL_law_937 dL_law_938 dL_law_939 rfl rfl rfl rfl rfl rfl (by omega) hN ?_
  refine r_callV (y2 := mX7_luck) (as := [_, _, _, _]) 943 dL_law_940 ml_L_127 mv_X7_luck (M_luck (d := 11) (by omega) hM1 hS) (by omega) sh_50 ⟨_, rfl, rfl⟩ rfl (Nat.le_of_ble_eq_true rfl) rfl (kk_l ?_)
  rintro x2 w2 ⟨e2, r2, f2⟩
  refine r_lcmp 944 dL_law_943 rfl ?_
  refine r_if_eq 1292 947 dL_law_944 (by decide) rfl (fun _ => ?_) (fun z => absurd (by rw [← e1, ← e2]; exact lg_same _) z)
  exact kk w2 _ ⟨r1.lo f2, r2, hS⟩
theorem g_see (hi : i + 5 ≤ N) (hN : N ≤ 320) (h : lwI w s) (kk : ∀ w' s', lwI w' s' → WP mL_law 12 (lwT b N xs) 1292 [some (.ref 400), some (.ref 0), some (.ref 50), some (.int (nI i))] [] w') : WP mL_law 12 (lwT b N xs) 949 [some (.ref 400), some (.ref 0), some (.ref 50), some (.int (nI i))] [] w := by
  obtain ⟨hR, hM, hS⟩ := h
  refine r_aload_n 950 dL_law_949 rfl rfl ?_
  refine r_arg (a := 1) 951 952 953 954 955 dL_law_950 dL_law_951 dL_law_952 dL_law_953 dL_law_954 rfl rfl rfl rfl rfl rfl (by omega) hN ?_
  refine r_arg (a := 2) 956 957 958 959 960 dL_law_955 dL_law_956 dL_law_957 dL_law_958 dL_law_959 rfl rfl rfl rfl rfl rfl (by omega) hN ?_
  refine r_callV (y2 := mX6_see) (as := [_, _]) 963 dL_law_960 ml_L_128 mv_X6_see (C_see (d := 11) (by omega) hR hS) (by omega) sh_0 ⟨_, rfl, rfl⟩ rfl (Nat.le_of_ble_eq_true rfl) rfl (kk_i ?_)
  rintro x1 w1 ⟨e1, r1, f1⟩
  have hM1 := hM.hi f1
  refine r_aload_n 964 dL_law_963 rfl rfl ?_
  refine r_arg (a := 1) 965 966 967 968 969 dL_law_964 dL_law_965 dL_law_966 dL_law_967 dL_law_968 rfl rfl rfl rfl rfl rfl (by omega) hN ?_
  refine r_arg (a := 2) 970 971 972 973 974 dL_law_969 dL_law_970 dL_law_971 dL_law_972 dL_law_973 rfl rfl rfl rfl rfl rfl (by omega) hN ?_
  refine r_callV (y2 := mX7_see) (as := [_, _]) 977 dL_law_974 ml_L_131 mv_X7_see (M_see (d := 11) (by omega) hM1 hS) (by omega) sh_50 ⟨_, rfl, rfl⟩ rfl (Nat.le_of_ble_eq_true rfl) rfl (kk_i ?_)
  rintro x2 w2 ⟨e2, r2, f2⟩
  refine r_icmp_eq 1292 980 dL_law_977 (by decide) rfl (fun _ => ?_) (fun z => absurd (e1.symm.trans e2) z)
  exact kk w2 _ ⟨r1.lo f2, r2, v_see hS⟩
theorem g_forget (hi : i + 5 ≤ N) (hN : N ≤ 320) (h : lwI w s) (kk : ∀ w' s', lwI w' s' → WP mL_law 12 (lwT b N xs) 1292 [some (.ref 400), some (.ref 0), some (.ref 50), some (.int (nI i))] [] w') : WP mL_law 12 (lwT b N xs) 982 [some (.ref 400), some (.ref 0), some (.ref 50), some (.int (nI i))] [] w := by
  obtain ⟨hR, hM, hS⟩ := h
  refine r_aload_n 983 dL_law_982 rfl rfl ?_
  refine r_arg (a := 1) 984 985 986 987 988 dL_law_983 dL_law_984 dL_law_985 dL_law_986 dL_law_987 rfl rfl rfl rfl rfl rfl (by omega) hN ?_
  refine r_callV (y2 := mX6_forget) (as := [_]) 991 dL_law_988 ml_L_132 mv_X6_forget (C_forget (d := 11) (by omega) hR hS) (by omega) sh_0 ⟨_, rfl, rfl⟩ rfl (Nat.le_of_ble_eq_true rfl) rfl (kk_i ?_)
  rintro x1 w1 ⟨e1, r1, f1⟩
  have hM1 := hM.hi f1
  refine r_aload_n 992 dL_law_991 rfl rfl ?_
  refine r_arg (a := 1) 993 994 995 996 997 dL_law_992 dL_law_993 dL_law_994 dL_law_995 dL_law_996 rfl rfl rfl rfl rfl rfl (by omega) hN ?_
  refine r_callV (y2 := mX7_forget) (as := [_]) 1000 dL_law_997 ml_L_135 mv_X7_forget (M_forget (d := 11) (by omega) hM1 hS) (by omega) sh_50 ⟨_, rfl, rfl⟩ rfl (Nat.le_of_ble_eq_true rfl) rfl (kk_i ?_)
  rintro x2 w2 ⟨e2, r2, f2⟩
  refine r_icmp_eq 1292 1003 dL_law_1000 (by decide) rfl (fun _ => ?_) (fun z => absurd (e1.symm.trans e2) z)
  exact kk w2 _ ⟨r1.lo f2, r2, v_forget hS⟩
theorem g_fits (hi : i + 5 ≤ N) (hN : N ≤ 320) (h : lwI w s) (kk : ∀ w' s', lwI w' s' → WP mL_law 12 (lwT b N xs) 1292 [some (.ref 400), some (.ref 0), some (.ref 50), some (.int (nI i))] [] w') : WP mL_law 12 (lwT b N xs) 1005 [some (.ref 400), some (.ref 0), some (.ref 50), some (.int (nI i))] [] w := by
  obtain ⟨hR, hM, hS⟩ := h
  refine r_aload_n 1006 dL_law_1005 rfl rfl ?_
  refine r_arg (a := 1) 1007 1008 1009 1010 1011 dL_law_1006 dL_law_1007 dL_law_1008 dL_law_1009 dL_law_1010 rfl rfl rfl rfl rfl rfl (by omega) hN ?_
  refine r_callV (y2 := mX6_fits) (as := [_]) 1014 dL_law_1011 ml_L_136 mv_X6_fits (C_fits (d := 11) (by omega) hR hS) (by omega) sh_0 ⟨_, rfl, rfl⟩ rfl (Nat.le_of_ble_eq_true rfl) rfl (kk_i ?_)
  rintro x1 w1 ⟨e1, r1, f1⟩
  have hM1 := hM.hi f1
  refine r_aload_n 1015 dL_law_1014 rfl rfl ?_
  refine r_arg (a := 1) 1016 1017 1018 1019 1020 dL_law_1015 dL_law_1016 dL_law_1017 dL_law_1018 dL_law_1019 rfl rfl rfl rfl rfl rfl (by omega) hN ?_
  refine r_callV (y2 := mX7_fits) (as := [_]) 1023 dL_law_1020 ml_L_139 mv_X7_fits (M_fits (d := 11) (by omega) hM1 hS) (by omega) sh_50 ⟨_, rfl, rfl⟩ rfl (Nat.le_of_ble_eq_true rfl) rfl (kk_i ?_)
  rintro x2 w2 ⟨e2, r2, f2⟩
  refine r_icmp_eq 1292 1026 dL_law_1023 (by decide) rfl (fun _ => ?_) (fun z => absurd (e1.symm.trans e2) z)
  exact kk w2 _ ⟨r1.lo f2, r2, hS⟩
theorem g_drift (hi : i + 5 ≤ N) (hN : N ≤ 320) (h : lwI w s) (kk : ∀ w' s', lwI w' s' → WP mL_law 12 (lwT b N xs) 1292 [some (.ref 400), some (.ref 0), some (.ref 50), some (.int (nI i))] [] w') : WP mL_law 12 (lwT b N xs) 1028 [some (.ref 400), some (.ref 0), some (.ref 50), some (.int (nI i))] [] w := by
  obtain ⟨hR, hM, hS⟩ := h
  refine r_aload_n 1029 dL_law_1028 rfl rfl ?_
  refine r_arg (a := 1) 1030 1031 1032 1033 1034 dL_law_1029 dL_law_1030 dL_law_1031 dL_law_1032 dL_law_1033 rfl rfl rfl rfl rfl rfl (by omega) hN ?_
  refine r_arg (a := 2) 1035 1036 1037 1038 1039 dL_law_1034 dL_law_1035 dL_law_1036 dL_law_1037 dL_law_1038 rfl rfl rfl rfl rfl rfl (by omega) hN ?_
  refine r_arg (a := 3) 1040 1041 1042 1043 1044 dL_law_1039 dL_law_1040 dL_law_1041 dL_law_1042 dL_law_1043 rfl rfl rfl rfl rfl rfl (by omega) hN ?_
  refine r_callV (y2 := mX6_drift) (as := [_, _, _]) 1047 dL_law_1044 ml_L_140 mv_X6_drift (C_drift (d := 11) (by omega) hR hS) (by omega) sh_0 ⟨_, rfl, rfl⟩ rfl (Nat.le_of_ble_eq_true rfl) rfl (kk_i ?_)
  rintro x1 w1 ⟨e1, r1, f1⟩
  have hM1 := hM.hi f1
  refine r_aload_n 1048 dL_law_1047 rfl rfl ?_
  refine r_arg (a := 1) 1049 1050 1051 1052 1053 dL_law_1048 dL_law_1049 dL_law_1050 dL_law_1051 dL_law_1052 rfl rfl rfl rfl rfl rfl (by omega) hN ?_
  refine r_arg (a := 2) 1054 1055 1056 1057 1058 dL_law_1053 dL_law_1054 dL_law_1055 dL_law_1056 dL_law_1057 rfl rfl rfl rfl rfl rfl (by omega) hN ?_
  refine r_arg (a := 3) 1059 1060 1061 1062 1063 dL_law_1058 dL_law_1059 dL_law_1060 dL_law_1061 dL_law_1062 rfl rfl rfl rfl rfl rfl (by omega) hN ?_
  refine r_callV (y2 := mX7_drift) (as := [_, _, _]) 1066 dL_law_1063 ml_L_143 mv_X7_drift (M_drift (d := 11) (by omega) hM1 hS) (by omega) sh_50 ⟨_, rfl, rfl⟩ rfl (Nat.le_of_ble_eq_true rfl) rfl (kk_i ?_)
  rintro x2 w2 ⟨e2, r2, f2⟩
  refine r_icmp_eq 1292 1069 dL_law_1066 (by decide) rfl (fun _ => ?_) (fun z => absurd (e1.symm.trans e2) z)
  exact kk w2 _ ⟨r1.lo f2, r2, hS⟩
theorem g_keep (hi : i + 5 ≤ N) (hN : N ≤ 320) (h : lwI w s) (kk : ∀ w' s', lwI w' s' → WP mL_law 12 (lwT b N xs) 1292 [some (.ref 400), some (.ref 0), some (.ref 50), some (.int (nI i))] [] w') : WP mL_law 12 (lwT b N xs) 1071 [some (.ref 400), some (.ref 0), some (.ref 50), some (.int (nI i))] [] w := by
  obtain ⟨hR, hM, hS⟩ := h
  refine r_aload_n 1072 dL_law_1071 rfl rfl ?_
  refine r_arg (a := 1) 1073 1074 1075 1076 1077 dL_law_1072 dL_law_1073 dL_law_1074 dL_law_1075 dL_law_1076 rfl rfl rfl rfl rfl rfl (by omega) hN ?_
  refine r_callV (y2 := mX6_keep) (as := [_]) 1080 dL_law_1077 ml_L_144 mv_X6_keep (C_keep (d := 11) (by omega) hR hS) (by omega) sh_0 ⟨_, rfl, rfl⟩ rfl (Nat.le_of_ble_eq_true rfl) rfl (kk_i ?_)
  rintro x1 w1 ⟨e1, r1, f1⟩
  have hM1 := hM.hi f1
  refine r_aload_n 1081 dL_law_1080 rfl rfl ?_
  refine r_arg (a := 1) 1082 1083 1084 1085 1086 dL_law_1081 dL_law_1082 dL_law_1083 dL_law_1084 dL_law_1085 rfl rfl rfl rfl rfl rfl (by omega) hN ?_
  refine r_callV (y2 := mX7_keep) (as := [_]) 1089 dL_law_1086 ml_L_147 mv_X7_keep (M_keep (d := 11) (by omega) hM1 hS) (by omega) sh_50 ⟨_, rfl, rfl⟩ rfl (Nat.le_of_ble_eq_true rfl) rfl (kk_i ?_)
  rintro x2 w2 ⟨e2, r2, f2⟩
  refine r_icmp_eq 1292 1092 dL_law_1089 (by decide) rfl (fun _ => ?_) (fun z => absurd (e1.symm.trans e2) z)
  exact kk w2 _ ⟨r1.lo f2, r2, v_keep hS⟩
theorem g_back (hi : i + 5 ≤ N) (hN : N ≤ 320) (h : lwI w s) (kk : ∀ w' s', lwI w' s' → WP mL_law 12 (lwT b N xs) 1292 [some (.ref 400), some (.ref 0), some (.ref 50), some (.int (nI i))] [] w') : WP mL_law 12 (lwT b N xs) 1094 [some (.ref 400), some (.ref 0), some (.ref 50), some (.int (nI i))] [] w := by
  obtain ⟨hR, hM, hS⟩ := h
  refine r_aload_n 1095 dL_law_1094 rfl rfl ?_
  refine r_arg (a := 1) 1096 1097 1098 1099 1100 dL_law_1095 dL_law_1096 dL_law_1097 dL_law_1098 dL_law_1099 rfl rfl rfl rfl rfl rfl (by omega) hN ?_
  refine r_callV (y2 := mX6_back) (as := [_]) 1103 dL_law_1100 ml_L_148 mv_X6_back (C_back (d := 11) (by omega) hR hS) (by omega) sh_0 ⟨_, rfl, rfl⟩ rfl (Nat.le_of_ble_eq_true rfl) rfl (kk_i ?_)
  rintro x1 w1 ⟨e1, r1, f1⟩
  have hM1 := hM.hi f1
  refine r_aload_n 1104 dL_law_1103 rfl rfl ?_
  refine r_arg (a := 1) 1105 1106 1107 1108 1109 dL_law_1104 dL_law_1105 dL_law_1106 dL_law_1107 dL_law_1108 rfl rfl rfl rfl rfl rfl (by omega) hN ?_
  refine r_callV (y2 := mX7_back) (as := [_]) 1112 dL_law_1109 ml_L_151 mv_X7_back (M_back (d := 11) (by omega) hM1 hS) (by omega) sh_50 ⟨_, rfl, rfl⟩ rfl (Nat.le_of_ble_eq_true rfl) rfl (kk_i ?_)
  rintro x2 w2 ⟨e2, r2, f2⟩
  refine r_icmp_eq 1292 1115 dL_law_1112 (by decide) rfl (fun _ => ?_) (fun z => absurd (e1.symm.trans e2) z)
  exact kk w2 _ ⟨r1.lo f2, r2, v_back hS⟩
theorem g_sheet (hi : i + 5 ≤ N) (hN : N ≤ 320) (h : lwI w s) (kk : ∀ w' s', lwI w' s' → WP mL_law 12 (lwT b N xs) 1292 [some (.ref 400), some (.ref 0), some (.ref 50), some (.int (nI i))] [] w') : WP mL_law 12 (lwT b N xs) 1117 [some (.ref 400), some (.ref 0), some (.ref 50), some (.int (nI i))] [] w := by
  obtain ⟨hR, hM, hS⟩ := h
  refine r_aload_n 1118 dL_law_1117 rfl rfl ?_
  refine r_arg (a := 1) 1119 1120 1121 1122 1123 dL_law_1118 dL_law_1119 dL_law_1120 dL_law_1121 dL_law_1122 rfl rfl rfl rfl rfl rfl (by omega) hN ?_
  refine r_arg (a := 2) 1124 1125 1126 1127 1128 dL_law_1123 dL_law_1124 dL_law_1125 dL_law_1126 dL_law_1127 rfl rfl rfl rfl rfl rfl (by omega) hN ?_
  refine r_arg (a := 3) 1129 1130 1131 1132 1133 dL_law_1128 dL_law_1129 dL_law_1130 dL_law_1131 dL_law_1132 rfl rfl rfl rfl rfl rfl (by omega) hN ?_
  refine r_callV (y2 := mX6_sheet) (as := [_, _, _]) 1136 dL_law_1133 ml_L_152 mv_X6_sheet (C_sheet (d := 11) (by omega) hR hS) (by omega) sh_0 ⟨_, rfl, rfl⟩ rfl (Nat.le_of_ble_eq_true rfl) rfl (kk_i ?_)
  rintro x1 w1 ⟨e1, r1, f1⟩
  have hM1 := hM.hi f1
  refine r_aload_n 1137 dL_law_1136 rfl rfl ?_
  refine r_arg (a := 1) 1138 1139 1140 1141 1142 dL_law_1137 dL_law_1138 dL_law_1139 dL_law_1140 dL_law_1141 rfl rfl rfl rfl rfl rfl (by omega) hN ?_
  refine r_arg (a := 2) 1143 1144 1145 1146 1147 dL_law_1142 dL_law_1143 dL_law_1144 dL_law_1145 dL_law_1146 rfl rfl rfl rfl rfl rfl (by omega) hN ?_
  refine r_arg (a := 3) 1148 1149 1150 1151 1152 dL_law_1147 dL_law_1148 dL_law_1149 dL_law_1150 dL_law_1151 rfl rfl rfl rfl rfl rfl (by omega) hN ?_
  refine r_callV (y2 := mX7_sheet) (as := [_, _, _]) 1155 dL_law_1152 ml_L_155 mv_X7_sheet (M_sheet (d := 11) (by omega) hM1 hS) (by omega) sh_50 ⟨_, rfl, rfl⟩ rfl (Nat.le_of_ble_eq_true rfl) rfl (kk_i ?_)
  rintro x2 w2 ⟨e2, r2, f2⟩
  refine r_icmp_eq 1292 1158 dL_law_1155 (by decide) rfl (fun _ => ?_) (fun z => absurd (e1.symm.trans e2) z)
  exact kk w2 _ ⟨r1.lo f2, r2, v_sheet hS⟩
theorem g_lay (hi : i + 5 ≤ N) (hN : N ≤ 320) (h : lwI w s) (kk : ∀ w' s', lwI w' s' → WP mL_law 12 (lwT b N xs) 1292 [some (.ref 400), some (.ref 0), some (.ref 50), some (.int (nI i))] [] w') : WP mL_law 12 (lwT b N xs) 1160 [some (.ref 400), some (.ref 0), some (.ref 50), some (.int (nI i))] [] w := by
  obtain ⟨hR, hM, hS⟩ := h
  refine r_aload_n 1161 dL_law_1160 rfl rfl ?_
  refine r_arg (a := 1) 1162 1163 1164 1165 1166 dL_law_1161 dL_law_1162 dL_law_1163 dL_law_1164 dL_law_1165 rfl rfl rfl rfl rfl rfl (by omega) hN ?_
  refine r_arg (a := 2) 1167 1168 1169 1170 1171 dL_law_1166 dL_law_1167 dL_law_1168 dL_law_1169 dL_law_1170 rfl rfl rfl rfl rfl rfl (by omega) hN ?_
  refine r_arg (a := 3) 1172 1173 1174 1175 1176 dL_law_1171 dL_law_1172 dL_law_1173 dL_law_1174 dL_law_1175 rfl rfl rfl rfl rfl rfl (by omega) hN ?_
  refine r_callV (y2 := mX6_lay) (as := [_, _, _]) 1179 dL_law_1176 ml_L_156 mv_X6_lay (C_lay (d := 11) (by omega) hR hS) (by omega) sh_0 ⟨_, rfl, rfl⟩ rfl (Nat.le_of_ble_eq_true rfl) rfl (kk_i ?_)
  rintro x1 w1 ⟨e1, r1, f1⟩
  have hM1 := hM.hi f1
  refine r_aload_n 1180 dL_law_1179 rfl rfl ?_
  refine r_arg (a := 1) 1181 1182 1183 1184 1185 dL_law_1180 dL_law_1181 dL_law_1182 dL_law_1183 dL_law_1184 rfl rfl rfl rfl rfl rfl (by omega) hN ?_
  refine r_arg (a := 2) 1186 1187 1188 1189 1190 dL_law_1185 dL_law_1186 dL_law_1187 dL_law_1188 dL_law_1189 rfl rfl rfl rfl rfl rfl (by omega) hN ?_
  refine r_arg (a := 3) 1191 1192 1193 1194 1195 dL_law_1190 dL_law_1191 dL_law_1192 dL_law_1193 dL_law_1194 rfl rfl rfl rfl rfl rfl (by omega) hN ?_
  refine r_callV (y2 := mX7_lay) (as := [_, _, _]) 1198 dL_law_1195 ml_L_159 mv_X7_lay (M_lay (d := 11) (by omega) hM1 hS) (by omega) sh_50 ⟨_, rfl, rfl⟩ rfl (Nat.le_of_ble_eq_true rfl) rfl (kk_i ?_)
  rintro x2 w2 ⟨e2, r2, f2⟩
  refine r_icmp_eq 1292 1201 dL_law_1198 (by decide) rfl (fun _ => ?_) (fun z => absurd (e1.symm.trans e2) z)
  exact kk w2 _ ⟨r1.lo f2, r2, v_lay hS⟩
theorem g_read (hi : i + 5 ≤ N) (hN : N ≤ 320) (h : lwI w s) (kk : ∀ w' s', lwI w' s' → WP mL_law 12 (lwT b N xs) 1292 [some (.ref 400), some (.ref 0), some (.ref 50), some (.int (nI i))] [] w') : WP mL_law 12 (lwT b N xs) 1203 [some (.ref 400), some (.ref 0), some (.ref 50), some (.int (nI i))] [] w := by
  obtain ⟨hR, hM, hS⟩ := h
  refine r_aload_n 1204 dL_law_1203 rfl rfl ?_
  refine r_arg (a := 1) 1205 1206 1207 1208 1209 dL_law_1204 dL_law_1205 dL_law_1206 dL_law_1207 dL_law_1208 rfl rfl rfl rfl rfl rfl (by omega) hN ?_
  refine r_arg (a := 2) 1210 1211 1212 1213 1214 dL_law_1209 dL_law_1210 dL_law_1211 dL_law_1212 dL_law_1213 rfl rfl rfl rfl rfl rfl (by omega) hN ?_
  refine r_arg (a := 3) 1215 1216 1217 1218 1219 dL_law_1214 dL_law_1215 dL_law_1216 dL_law_1217 dL_law_1218 rfl rfl rfl rfl rfl rfl (by omega) hN ?_
  refine r_arg (a := 4) 1220 1221 1222 1223 1224 dL_law_1219 dL_law_1220 dL_law_1221 dL_law_1222 dL_law_1223 rfl rfl rfl rfl rfl rfl (by omega) hN ?_
  refine r_callV (y2 := mX6_read) (as := [_, _, _, _]) 1227 dL_law_1224 ml_L_160 mv_X6_read (C_read (d := 11) (by omega) hR hS) (by omega) sh_0 ⟨_, rfl, rfl⟩ rfl (Nat.le_of_ble_eq_true rfl) rfl (kk_i ?_)
  rintro x1 w1 ⟨e1, r1, f1⟩
  have hM1 := hM.hi f1
  refine r_aload_n 1228 dL_law_1227 rfl rfl ?_
  refine r_arg (a := 1) 1229 1230 1231 1232 1233 dL_law_1228 dL_law_1229 dL_law_1230 dL_law_1231 dL_law_1232 rfl rfl rfl rfl rfl rfl (by omega) hN ?_
  refine r_arg (a := 2) 1234 1235 1236 1237 1238 dL_law_1233 dL_law_1234 dL_law_1235 dL_law_1236 dL_law_1237 rfl rfl rfl rfl rfl rfl (by omega) hN ?_
  refine r_arg (a := 3) 1239 1240 1241 1242 1243 dL_law_1238 dL_law_1239 dL_law_1240 dL_law_1241 dL_law_1242 rfl rfl rfl rfl rfl rfl (by omega) hN ?_
  refine r_arg (a := 4) 1244 1245 1246 1247 1248 dL_law_1243 dL_law_1244 dL_law_1245 dL_law_1246 dL_law_1247 rfl rfl rfl rfl rfl rfl (by omega) hN ?_
  refine r_callV (y2 := mX7_read) (as := [_, _, _, _]) 1251 dL_law_1248 ml_L_164 mv_X7_read (M_read (d := 11) (by omega) hM1 hS) (by omega) sh_50 ⟨_, rfl, rfl⟩ rfl (Nat.le_of_ble_eq_true rfl) rfl (kk_i ?_)
  rintro x2 w2 ⟨e2, r2, f2⟩
  refine r_icmp_eq 1292 1254 dL_law_1251 (by decide) rfl (fun _ => ?_) (fun z => absurd (e1.symm.trans e2) z)
  exact kk w2 _ ⟨r1.lo f2, r2, v_read hS⟩
theorem g_torn (hi : i + 5 ≤ N) (hN : N ≤ 320) (h : lwI w s) (kk : ∀ w' s', lwI w' s' → WP mL_law 12 (lwT b N xs) 1292 [some (.ref 400), some (.ref 0), some (.ref 50), some (.int (nI i))] [] w') : WP mL_law 12 (lwT b N xs) 1256 [some (.ref 400), some (.ref 0), some (.ref 50), some (.int (nI i))] [] w := by
  obtain ⟨hR, hM, hS⟩ := h
  refine r_aload_n 1257 dL_law_1256 rfl rfl ?_
  refine r_callV (y2 := mX6_torn) (as := []) 1260 dL_law_1257 ml_L_165 mv_X6_torn (C_torn (d := 11) (by omega) hR hS) (by omega) sh_0 ⟨_, rfl, rfl⟩ rfl (Nat.le_of_ble_eq_true rfl) rfl (kk_i ?_)
  rintro x1 w1 ⟨e1, r1, f1⟩
  have hM1 := hM.hi f1
  refine r_aload_n 1261 dL_law_1260 rfl rfl ?_
  refine r_callV (y2 := mX7_torn) (as := []) 1264 dL_law_1261 ml_L_168 mv_X7_torn (M_torn (d := 11) (by omega) hM1 hS) (by omega) sh_50 ⟨_, rfl, rfl⟩ rfl (Nat.le_of_ble_eq_true rfl) rfl (kk_i ?_)
  rintro x2 w2 ⟨e2, r2, f2⟩
  refine r_icmp_eq 1292 1267 dL_law_1264 (by decide) rfl (fun _ => ?_) (fun z => absurd (e1.symm.trans e2) z)
  exact kk w2 _ ⟨r1.lo f2, r2, hS⟩
theorem g_count (hi : i + 5 ≤ N) (hN : N ≤ 320) (h : lwI w s) (kk : ∀ w' s', lwI w' s' → WP mL_law 12 (lwT b N xs) 1292 [some (.ref 400), some (.ref 0), some (.ref 50), some (.int (nI i))] [] w') : WP mL_law 12 (lwT b N xs) 1269 [some (.ref 400), some (.ref 0), some (.ref 50), some (.int (nI i))] [] w := by
  obtain ⟨hR, hM, hS⟩ := h
  refine r_aload_n 1270 dL_law_1269 rfl rfl ?_
  refine r_arg (a := 1) 1271 1272 1273 1274 1275 dL_law_1270 dL_law_1271 dL_law_1272 dL_law_1273 dL_law_1274 rfl rfl rfl rfl rfl rfl (by omega) hN ?_
  refine r_callV (y2 := mX6_count) (as := [_]) 1278 dL_law_1275 ml_L_169 mv_X6_count (C_count (d := 11) (by omega) hR hS) (by omega) sh_0 ⟨_, rfl, rfl⟩ rfl (Nat.le_of_ble_eq_true rfl) rfl (kk_i ?_)
  rintro x1 w1 ⟨e1, r1, f1⟩
  have hM1 := hM.hi f1
  refine r_aload_n 1279 dL_law_1278 rfl rfl ?_
  refine r_arg (a := 1) 1280 1281 1282 1283 1284 dL_law_1279 dL_law_1280 dL_law_1281 dL_law_1282 dL_law_1283 rfl rfl rfl rfl rfl rfl (by omega) hN ?_
  refine r_callV (y2 := mX7_count) (as := [_]) 1287 dL_law_1284 ml_L_172 mv_X7_count (M_count (d := 11) (by omega) hM1 hS) (by omega) sh_50 ⟨_, rfl, rfl⟩ rfl (Nat.le_of_ble_eq_true rfl) rfl (kk_i ?_)
  rintro x2 w2 ⟨e2, r2, f2⟩
  refine r_icmp_eq 1292 1290 dL_law_1287 (by decide) rfl (fun _ => ?_) (fun z => absurd (e1.symm.trans e2) z)
  exact kk w2 _ ⟨r1.lo f2, r2, hS⟩
end CALLS
set_option maxRecDepth 100000 in
set_option maxHeartbeats 4000000 in
theorem l_law {b N : Nat} {xs : Nat → Int32} (hN : N ≤ 320) : ∀ (m i : Nat) (w : zW) (s : sT), i ≤ N → N ≤ i + m → lwI w s → WP mL_law 12 (lwT b N xs) 18 [some (.ref 400), some (.ref 0), some (.ref 50), some (.int (nI i))] [] w := by
  intro m
  induction m with
  | zero =>
    intro i w s hi hm h
    refine r_iload_n 19 dL_law_18 rfl rfl ?_
    refine r_aload_n 20 dL_law_19 rfl rfl ?_
    refine r_slenL 21 dL_law_20 rfl ?_
    refine r_iconst 22 dL_law_21 (v := nI 5) rfl rfl ?_
    refine r_isub 23 dL_law_22 rfl ?_
    refine r_icmp_gt 1298 26 dL_law_23 (by decide) rfl (fun _ => ?_) (fun z => absurd (ti_lt.mpr (by rw [ti_sub (by rw [ti_n (by omega), ti_n (by omega)]; omega), ti_n (by omega), ti_n (by omega), ti_n (by omega)]; omega)) z)
    refine r_iconst 1299 dL_law_1298 (v := 1) rfl rfl ?_
    exact r_lend dL_law_1299
  | succ m ih =>
    intro i w s hi hm h
    refine r_iload_n 19 dL_law_18 rfl rfl ?_
    refine r_aload_n 20 dL_law_19 rfl rfl ?_
    refine r_slenL 21 dL_law_20 rfl ?_
    refine r_iconst 22 dL_law_21 (v := nI 5) rfl rfl ?_
    refine r_isub 23 dL_law_22 rfl ?_
    refine r_icmp_gt 1298 26 dL_law_23 (by decide) rfl (fun _ => ?_) (fun z => ?_)
    · refine r_iconst 1299 dL_law_1298 (v := 1) rfl rfl ?_
      exact r_lend dL_law_1299
    have hi5 : i + 5 ≤ N := by
      refine Nat.not_lt.mp (fun q => z (ti_lt.mpr ?_))
      rw [ti_sub (by rw [ti_n (by omega), ti_n (by omega)]; omega), ti_n (by omega), ti_n (by omega), ti_n (by omega)]
      omega
    have kk : ∀ w' s', lwI w' s' → WP mL_law 12 (lwT b N xs) 1292 [some (.ref 400), some (.ref 0), some (.ref 50), some (.int (nI i))] [] w' := fun w' s' h' => by
      refine r_iinc (v := nI (i + 5)) 1295 dL_law_1292 rfl (nI_add i 5) (by decide) rfl rfl rfl ?_
      refine r_goto 18 dL_law_1295 (by decide) ?_
      exact ih (i + 5) w' s' hi5 (by omega) h'
    refine r_aload_n 27 dL_law_26 rfl rfl ?_
    refine r_iload_n 28 dL_law_27 rfl rfl ?_
    refine r_sld (j := i) 29 dL_law_28 rfl (by omega) hN rfl ?_
    refine r_bipush 31 dL_law_29 (v := 63) rfl rfl ?_
    refine r_iand 32 dL_law_31 rfl ?_
    obtain ⟨j, hj, e⟩ := pk_andE (xs i) (m := 63) 6 (by decide +kernel)
    rw [e]
    have hj : j < 64 := hj
    by_cases hj2 : j < 38
    · match j, hj2 with
      | 0, _ => exact r_tin 200 dL_law_32 (by decide +kernel) (by decide +kernel) (off := 168) (by decide +kernel) (by decide) (g_feed hi5 hN h kk)
      | 1, _ => exact r_tin 223 dL_law_32 (by decide +kernel) (by decide +kernel) (off := 191) (by decide +kernel) (by decide) (g_end hi5 hN h kk)
      | 2, _ => exact r_tin 246 dL_law_32 (by decide +kernel) (by decide +kernel) (off := 214) (by decide +kernel) (by decide) (g_text hi5 hN h kk)
      | 3, _ => exact r_tin 259 dL_law_32 (by decide +kernel) (by decide +kernel) (off := 227) (by decide +kernel) (by decide) (g_fault hi5 hN h kk)
      | 4, _ => exact r_tin 272 dL_law_32 (by decide +kernel) (by decide +kernel) (off := 240) (by decide +kernel) (by decide) (g_rule hi5 hN h kk)
      | 5, _ => exact r_tin 295 dL_law_32 (by decide +kernel) (by decide +kernel) (off := 263) (by decide +kernel) (by decide) (g_boat hi5 hN h kk)
      | 6, _ => exact r_tin 328 dL_law_32 (by decide +kernel) (by decide +kernel) (off := 296) (by decide +kernel) (by decide) (g_set hi5 hN h kk)
      | 7, _ => exact r_tin 361 dL_law_32 (by decide +kernel) (by decide +kernel) (off := 329) (by decide +kernel) (by decide) (g_alter hi5 hN h kk)
      | 8, _ => exact r_tin 404 dL_law_32 (by decide +kernel) (by decide +kernel) (off := 372) (by decide +kernel) (by decide) (g_lie hi5 hN h kk)
      | 9, _ => exact r_tin 453 dL_law_32 (by decide +kernel) (by decide +kernel) (off := 421) (by decide +kernel) (by decide) (g_cross hi5 hN h kk)
      | 10, _ => exact r_tin 476 dL_law_32 (by decide +kernel) (by decide +kernel) (off := 444) (by decide +kernel) (by decide) (g_passes hi5 hN h kk)
      | 11, _ => exact r_tin 499 dL_law_32 (by decide +kernel) (by decide +kernel) (off := 467) (by decide +kernel) (by decide) (g_through hi5 hN h kk)
      | 12, _ => exact r_tin 522 dL_law_32 (by decide +kernel) (by decide +kernel) (off := 490) (by decide +kernel) (by decide) (g_stood hi5 hN h kk)
      | 13, _ => exact r_tin 545 dL_law_32 (by decide +kernel) (by decide +kernel) (off := 513) (by decide +kernel) (by decide) (g_day hi5 hN h kk)
      | 14, _ => exact r_tin 568 dL_law_32 (by decide +kernel) (by decide +kernel) (off := 536) (by decide +kernel) (by decide) (g_table hi5 hN h kk)
      | 15, _ => exact r_tin 601 dL_law_32 (by decide +kernel) (by decide +kernel) (off := 569) (by decide +kernel) (by decide) (g_best hi5 hN h kk)
      | 16, _ => exact r_tin 624 dL_law_32 (by decide +kernel) (by decide +kernel) (off := 592) (by decide +kernel) (by decide) (g_order hi5 hN h kk)
      | 17, _ => exact r_tin 647 dL_law_32 (by decide +kernel) (by decide +kernel) (off := 615) (by decide +kernel) (by decide) (g_firsts hi5 hN h kk)
      | 18, _ => exact r_tin 670 dL_law_32 (by decide +kernel) (by decide +kernel) (off := 638) (by decide +kernel) (by decide) (g_gain hi5 hN h kk)
      | 19, _ => exact r_tin 693 dL_law_32 (by decide +kernel) (by decide +kernel) (off := 661) (by decide +kernel) (by decide) (g_calm hi5 hN h kk)
      | 20, _ => exact r_tin 706 dL_law_32 (by decide +kernel) (by decide +kernel) (off := 674) (by decide +kernel) (by decide) (g_rests hi5 hN h kk)
      | 21, _ => exact r_tin 729 dL_law_32 (by decide +kernel) (by decide +kernel) (off := 697) (by decide +kernel) (by decide) (g_boy hi5 hN h kk)
      | 22, _ => exact r_tin 762 dL_law_32 (by decide +kernel) (by decide +kernel) (off := 730) (by decide +kernel) (by decide) (g_post hi5 hN h kk)
      | 23, _ => exact r_tin 785 dL_law_32 (by decide +kernel) (by decide +kernel) (off := 753) (by decide +kernel) (by decide) (g_late hi5 hN h kk)
      | 24, _ => exact r_tin 808 dL_law_32 (by decide +kernel) (by decide +kernel) (off := 776) (by decide +kernel) (by decide) (g_deal hi5 hN h kk)
      | 25, _ => exact r_tin 851 dL_law_32 (by decide +kernel) (by decide +kernel) (off := 819) (by decide +kernel) (by decide) (g_mean hi5 hN h kk)
      | 26, _ => exact r_tin 895 dL_law_32 (by decide +kernel) (by decide +kernel) (off := 863) (by decide +kernel) (by decide) (g_luck hi5 hN h kk)
      | 27, _ => exact r_tin 949 dL_law_32 (by decide +kernel) (by decide +kernel) (off := 917) (by decide +kernel) (by decide) (g_see hi5 hN h kk)
      | 28, _ => exact r_tin 982 dL_law_32 (by decide +kernel) (by decide +kernel) (off := 950) (by decide +kernel) (by decide) (g_forget hi5 hN h kk)
      | 29, _ => exact r_tin 1005 dL_law_32 (by decide +kernel) (by decide +kernel) (off := 973) (by decide +kernel) (by decide) (g_fits hi5 hN h kk)
      | 30, _ => exact r_tin 1028 dL_law_32 (by decide +kernel) (by decide +kernel) (off := 996) (by decide +kernel) (by decide) (g_drift hi5 hN h kk)
      | 31, _ => exact r_tin 1071 dL_law_32 (by decide +kernel) (by decide +kernel) (off := 1039) (by decide +kernel) (by decide) (g_keep hi5 hN h kk)
      | 32, _ => exact r_tin 1094 dL_law_32 (by decide +kernel) (by decide +kernel) (off := 1062) (by decide +kernel) (by decide) (g_back hi5 hN h kk)
      | 33, _ => exact r_tin 1117 dL_law_32 (by decide +kernel) (by decide +kernel) (off := 1085) (by decide +kernel) (by decide) (g_sheet hi5 hN h kk)
      | 34, _ => exact r_tin 1160 dL_law_32 (by decide +kernel) (by decide +kernel) (off := 1128) (by decide +kernel) (by decide) (g_lay hi5 hN h kk)
      | 35, _ => exact r_tin 1203 dL_law_32 (by decide +kernel) (by decide +kernel) (off := 1171) (by decide +kernel) (by decide) (g_read hi5 hN h kk)
      | 36, _ => exact r_tin 1256 dL_law_32 (by decide +kernel) (by decide +kernel) (off := 1224) (by decide +kernel) (by decide) (g_torn hi5 hN h kk)
      | 37, _ => exact r_tin 1269 dL_law_32 (by decide +kernel) (by decide +kernel) (off := 1237) (by decide +kernel) (by decide) (g_count hi5 hN h kk)
      | j + 38, hj2 => omega
    · exact r_tout 1292 dL_law_32 (Or.inr (by rw [ti_n (by omega)]; omega)) (by decide) (kk w s h)
