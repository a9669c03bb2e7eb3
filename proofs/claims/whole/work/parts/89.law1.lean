/-! ===== the law: its cases ===== -/
theorem lcmp_s {x : Int64} : lg_cmp x x = 0 := by unfold lg_cmp; rw [if_neg Int64.lt_irrefl, if_pos rfl]
theorem lw_0 {L : Nat} {xs : Nat → Int32} {d p : Nat} {m : sM} {n : sN} {Q : sQ} (hL : L ≤ 3072) (hp : p + 6 ≤ L) (h : Rel m n) (tail : ∀ (m : sM) (n : sN), Rel m n → sV (scT L xs) (d + 11) "LoafFallLaw" cL_law 4 (some .boolean) Q 1562 [some (.ref (100000 + 6)), some (.ref 0), some (.ref 239), some (.int (nI p))] [] m n) : sV (scT L xs) (d + 11) "LoafFallLaw" cL_law 4 (some .boolean) Q 236 [some (.ref (100000 + 6)), some (.ref 0), some (.ref 239), some (.int (nI p))] [] m n := by
  refine y_aload_n dL_law_236 rfl rfl ?_
  refine y_aload_n dL_law_237 rfl rfl ?_
  refine y_iload_n dL_law_238 rfl rfl ?_
  refine y_iconst (v := 1) dL_law_239 (by decide) ?_
  refine y_iaddN (a := p) (b := 1) dL_law_240 rfl rfl ?_
  refine y_saldN dL_law_241 rfl rfl (by omega) (by omega) ?_
  refine y_aload_n dL_law_242 rfl rfl ?_
  refine y_iload_n dL_law_243 rfl rfl ?_
  refine y_iconst (v := 2) dL_law_244 (by decide) ?_
  refine y_iaddN (a := p) (b := 2) dL_law_245 rfl rfl ?_
  refine y_saldN dL_law_246 rfl rfl (by omega) (by omega) ?_
  refine y_ivI2 dL_law_247 mv_L_13 my_X11_row (Or.inl rfl) sh_0 ?_
  refine sRun_mono ?_ (p_row h)
  intro r1 m1 n1 z1
  obtain ⟨v, e1, hk⟩ := z1
  refine ⟨v, e1, ?_⟩
  refine y_aload_n dL_law_250 rfl rfl ?_
  refine y_aload_n dL_law_251 rfl rfl ?_
  refine y_iload_n dL_law_252 rfl rfl ?_
  refine y_iconst (v := 1) dL_law_253 (by decide) ?_
  refine y_iaddN (a := p) (b := 1) dL_law_254 rfl rfl ?_
  refine y_saldN dL_law_255 rfl rfl (by omega) (by omega) ?_
  refine y_aload_n dL_law_256 rfl rfl ?_
  refine y_iload_n dL_law_257 rfl rfl ?_
  refine y_iconst (v := 2) dL_law_258 (by decide) ?_
  refine y_iaddN (a := p) (b := 2) dL_law_259 rfl rfl ?_
  refine y_saldN dL_law_260 rfl rfl (by omega) (by omega) ?_
  refine y_ivI2 dL_law_261 mv_L_17 my_X12_row (Or.inl rfl) sh_239 ?_
  refine sRun_mono ?_ hk
  intro r2 m2 n2 z2
  obtain ⟨e2, h2⟩ := z2
  refine ⟨v, e2, ?_⟩
  refine y_icmp_eq (tgt := 1562) dL_law_264 (by decide) (fun h264 => ?_) (fun h264 => absurd rfl h264)
  exact tail m2 n2 h2
theorem lw_1 {L : Nat} {xs : Nat → Int32} {d p : Nat} {m : sM} {n : sN} {Q : sQ} (hL : L ≤ 3072) (hp : p + 6 ≤ L) (h : Rel m n) (tail : ∀ (m : sM) (n : sN), Rel m n → sV (scT L xs) (d + 11) "LoafFallLaw" cL_law 4 (some .boolean) Q 1562 [some (.ref (100000 + 6)), some (.ref 0), some (.ref 239), some (.int (nI p))] [] m n) : sV (scT L xs) (d + 11) "LoafFallLaw" cL_law 4 (some .boolean) Q 269 [some (.ref (100000 + 6)), some (.ref 0), some (.ref 239), some (.int (nI p))] [] m n := by
  refine y_aload_n dL_law_269 rfl rfl ?_
  refine y_aload_n dL_law_270 rfl rfl ?_
  refine y_iload_n dL_law_271 rfl rfl ?_
  refine y_iconst (v := 1) dL_law_272 (by decide) ?_
  refine y_iaddN (a := p) (b := 1) dL_law_273 rfl rfl ?_
  refine y_saldN dL_law_274 rfl rfl (by omega) (by omega) ?_
  refine y_aload_n dL_law_275 rfl rfl ?_
  refine y_iload_n dL_law_276 rfl rfl ?_
  refine y_iconst (v := 2) dL_law_277 (by decide) ?_
  refine y_iaddN (a := p) (b := 2) dL_law_278 rfl rfl ?_
  refine y_saldN dL_law_279 rfl rfl (by omega) (by omega) ?_
  refine y_aload_n dL_law_280 rfl rfl ?_
  refine y_iload_n dL_law_281 rfl rfl ?_
  refine y_iconst (v := 3) dL_law_282 (by decide) ?_
  refine y_iaddN (a := p) (b := 3) dL_law_283 rfl rfl ?_
  refine y_saldN dL_law_284 rfl rfl (by omega) (by omega) ?_
  refine y_ivI3 dL_law_285 mv_L_18 my_X11_lay (Or.inl rfl) sh_0 ?_
  refine sRun_mono ?_ (p_lay h)
  intro r1 m1 n1 z1
  obtain ⟨v, e1, hk⟩ := z1
  refine ⟨v, e1, ?_⟩
  refine y_aload_n dL_law_288 rfl rfl ?_
  refine y_aload_n dL_law_289 rfl rfl ?_
  refine y_iload_n dL_law_290 rfl rfl ?_
  refine y_iconst (v := 1) dL_law_291 (by decide) ?_
  refine y_iaddN (a := p) (b := 1) dL_law_292 rfl rfl ?_
  refine y_saldN dL_law_293 rfl rfl (by omega) (by omega) ?_
  refine y_aload_n dL_law_294 rfl rfl ?_
  refine y_iload_n dL_law_295 rfl rfl ?_
  refine y_iconst (v := 2) dL_law_296 (by decide) ?_
  refine y_iaddN (a := p) (b := 2) dL_law_297 rfl rfl ?_
  refine y_saldN dL_law_298 rfl rfl (by omega) (by omega) ?_
  refine y_aload_n dL_law_299 rfl rfl ?_
  refine y_iload_n dL_law_300 rfl rfl ?_
  refine y_iconst (v := 3) dL_law_301 (by decide) ?_
  refine y_iaddN (a := p) (b := 3) dL_law_302 rfl rfl ?_
  refine y_saldN dL_law_303 rfl rfl (by omega) (by omega) ?_
  refine y_ivI3 dL_law_304 mv_L_22 my_X12_lay (Or.inl rfl) sh_239 ?_
  refine sRun_mono ?_ hk
  intro r2 m2 n2 z2
  obtain ⟨e2, h2⟩ := z2
  refine ⟨v, e2, ?_⟩
  refine y_icmp_eq (tgt := 1562) dL_law_307 (by decide) (fun h307 => ?_) (fun h307 => absurd rfl h307)
  exact tail m2 n2 h2
theorem lw_2 {L : Nat} {xs : Nat → Int32} {d p : Nat} {m : sM} {n : sN} {Q : sQ} (hL : L ≤ 3072) (hp : p + 6 ≤ L) (h : Rel m n) (tail : ∀ (m : sM) (n : sN), Rel m n → sV (scT L xs) (d + 11) "LoafFallLaw" cL_law 4 (some .boolean) Q 1562 [some (.ref (100000 + 6)), some (.ref 0), some (.ref 239), some (.int (nI p))] [] m n) : sV (scT L xs) (d + 11) "LoafFallLaw" cL_law 4 (some .boolean) Q 312 [some (.ref (100000 + 6)), some (.ref 0), some (.ref 239), some (.int (nI p))] [] m n := by
  refine y_aload_n dL_law_312 rfl rfl ?_
  refine y_aload_n dL_law_313 rfl rfl ?_
  refine y_iload_n dL_law_314 rfl rfl ?_
  refine y_iconst (v := 1) dL_law_315 (by decide) ?_
  refine y_iaddN (a := p) (b := 1) dL_law_316 rfl rfl ?_
  refine y_saldN dL_law_317 rfl rfl (by omega) (by omega) ?_
  refine y_aload_n dL_law_318 rfl rfl ?_
  refine y_iload_n dL_law_319 rfl rfl ?_
  refine y_iconst (v := 2) dL_law_320 (by decide) ?_
  refine y_iaddN (a := p) (b := 2) dL_law_321 rfl rfl ?_
  refine y_saldN dL_law_322 rfl rfl (by omega) (by omega) ?_
  refine y_ivI2 dL_law_323 mv_L_23 my_X11_at (Or.inl rfl) sh_0 ?_
  refine sRun_mono ?_ (p_at h)
  intro r1 m1 n1 z1
  obtain ⟨v, e1, hk⟩ := z1
  refine ⟨v, e1, ?_⟩
  refine y_aload_n dL_law_326 rfl rfl ?_
  refine y_aload_n dL_law_327 rfl rfl ?_
  refine y_iload_n dL_law_328 rfl rfl ?_
  refine y_iconst (v := 1) dL_law_329 (by decide) ?_
  refine y_iaddN (a := p) (b := 1) dL_law_330 rfl rfl ?_
  refine y_saldN dL_law_331 rfl rfl (by omega) (by omega) ?_
  refine y_aload_n dL_law_332 rfl rfl ?_
  refine y_iload_n dL_law_333 rfl rfl ?_
  refine y_iconst (v := 2) dL_law_334 (by decide) ?_
  refine y_iaddN (a := p) (b := 2) dL_law_335 rfl rfl ?_
  refine y_saldN dL_law_336 rfl rfl (by omega) (by omega) ?_
  refine y_ivI2 dL_law_337 mv_L_26 my_X12_at (Or.inl rfl) sh_239 ?_
  refine sRun_mono ?_ hk
  intro r2 m2 n2 z2
  obtain ⟨e2, h2⟩ := z2
  refine ⟨v, e2, ?_⟩
  refine y_icmp_eq (tgt := 1562) dL_law_340 (by decide) (fun h340 => ?_) (fun h340 => absurd rfl h340)
  exact tail m2 n2 h2
theorem lw_3 {L : Nat} {xs : Nat → Int32} {d p : Nat} {m : sM} {n : sN} {Q : sQ} (hL : L ≤ 3072) (hp : p + 6 ≤ L) (h : Rel m n) (tail : ∀ (m : sM) (n : sN), Rel m n → sV (scT L xs) (d + 11) "LoafFallLaw" cL_law 4 (some .boolean) Q 1562 [some (.ref (100000 + 6)), some (.ref 0), some (.ref 239), some (.int (nI p))] [] m n) : sV (scT L xs) (d + 11) "LoafFallLaw" cL_law 4 (some .boolean) Q 345 [some (.ref (100000 + 6)), some (.ref 0), some (.ref 239), some (.int (nI p))] [] m n := by
  refine y_aload_n dL_law_345 rfl rfl ?_
  refine y_aload_n dL_law_346 rfl rfl ?_
  refine y_iload_n dL_law_347 rfl rfl ?_
  refine y_iconst (v := 1) dL_law_348 (by decide) ?_
  refine y_iaddN (a := p) (b := 1) dL_law_349 rfl rfl ?_
  refine y_saldN dL_law_350 rfl rfl (by omega) (by omega) ?_
  refine y_ivI1 dL_law_351 mv_L_27 my_X11_tear (Or.inl rfl) sh_0 ?_
  refine sRun_mono ?_ (p_tear h)
  intro r1 m1 n1 z1
  obtain ⟨v, e1, hk⟩ := z1
  refine ⟨v, e1, ?_⟩
  refine y_aload_n dL_law_354 rfl rfl ?_
  refine y_aload_n dL_law_355 rfl rfl ?_
  refine y_iload_n dL_law_356 rfl rfl ?_
  refine y_iconst (v := 1) dL_law_357 (by decide) ?_
  refine y_iaddN (a := p) (b := 1) dL_law_358 rfl rfl ?_
  refine y_saldN dL_law_359 rfl rfl (by omega) (by omega) ?_
  refine y_ivI1 dL_law_360 mv_L_31 my_X12_tear (Or.inl rfl) sh_239 ?_
  refine sRun_mono ?_ hk
  intro r2 m2 n2 z2
  obtain ⟨e2, h2⟩ := z2
  refine ⟨v, e2, ?_⟩
  refine y_icmp_eq (tgt := 1562) dL_law_363 (by decide) (fun h363 => ?_) (fun h363 => absurd rfl h363)
  exact tail m2 n2 h2
theorem lw_4 {L : Nat} {xs : Nat → Int32} {d p : Nat} {m : sM} {n : sN} {Q : sQ} (hL : L ≤ 3072) (hp : p + 6 ≤ L) (h : Rel m n) (tail : ∀ (m : sM) (n : sN), Rel m n → sV (scT L xs) (d + 11) "LoafFallLaw" cL_law 4 (some .boolean) Q 1562 [some (.ref (100000 + 6)), some (.ref 0), some (.ref 239), some (.int (nI p))] [] m n) : sV (scT L xs) (d + 11) "LoafFallLaw" cL_law 4 (some .boolean) Q 368 [some (.ref (100000 + 6)), some (.ref 0), some (.ref 239), some (.int (nI p))] [] m n := by
  refine y_aload_n dL_law_368 rfl rfl ?_
  refine y_aload_n dL_law_369 rfl rfl ?_
  refine y_iload_n dL_law_370 rfl rfl ?_
  refine y_iconst (v := 1) dL_law_371 (by decide) ?_
  refine y_iaddN (a := p) (b := 1) dL_law_372 rfl rfl ?_
  refine y_saldN dL_law_373 rfl rfl (by omega) (by omega) ?_
  refine y_aload_n dL_law_374 rfl rfl ?_
  refine y_iload_n dL_law_375 rfl rfl ?_
  refine y_iconst (v := 2) dL_law_376 (by decide) ?_
  refine y_iaddN (a := p) (b := 2) dL_law_377 rfl rfl ?_
  refine y_saldN dL_law_378 rfl rfl (by omega) (by omega) ?_
  refine y_aload_n dL_law_379 rfl rfl ?_
  refine y_iload_n dL_law_380 rfl rfl ?_
  refine y_iconst (v := 3) dL_law_381 (by decide) ?_
  refine y_iaddN (a := p) (b := 3) dL_law_382 rfl rfl ?_
  refine y_saldN dL_law_383 rfl rfl (by omega) (by omega) ?_
  refine y_aload_n dL_law_384 rfl rfl ?_
  refine y_iload_n dL_law_385 rfl rfl ?_
  refine y_iconst (v := 4) dL_law_386 (by decide) ?_
  refine y_iaddN (a := p) (b := 4) dL_law_387 rfl rfl ?_
  refine y_saldN dL_law_388 rfl rfl (by omega) (by omega) ?_
  refine y_aload_n dL_law_389 rfl rfl ?_
  refine y_iload_n dL_law_390 rfl rfl ?_
  refine y_iconst (v := 5) dL_law_391 (by decide) ?_
  refine y_iaddN (a := p) (b := 5) dL_law_392 rfl rfl ?_
  refine y_saldN dL_law_393 rfl rfl (by omega) (by omega) ?_
  refine y_ivI5 dL_law_394 mv_L_32 my_X11_copy (Or.inl rfl) sh_0 ?_
  refine sRun_mono ?_ (p_copy h)
  intro r1 m1 n1 z1
  obtain ⟨v, e1, hk⟩ := z1
  refine ⟨v, e1, ?_⟩
  refine y_aload_n dL_law_397 rfl rfl ?_
  refine y_aload_n dL_law_398 rfl rfl ?_
  refine y_iload_n dL_law_399 rfl rfl ?_
  refine y_iconst (v := 1) dL_law_400 (by decide) ?_
  refine y_iaddN (a := p) (b := 1) dL_law_401 rfl rfl ?_
  refine y_saldN dL_law_402 rfl rfl (by omega) (by omega) ?_
  refine y_aload_n dL_law_403 rfl rfl ?_
  refine y_iload_n dL_law_404 rfl rfl ?_
  refine y_iconst (v := 2) dL_law_405 (by decide) ?_
  refine y_iaddN (a := p) (b := 2) dL_law_406 rfl rfl ?_
  refine y_saldN dL_law_407 rfl rfl (by omega) (by omega) ?_
  refine y_aload_n dL_law_408 rfl rfl ?_
  refine y_iload_n dL_law_409 rfl rfl ?_
  refine y_iconst (v := 3) dL_law_410 (by decide) ?_
  refine y_iaddN (a := p) (b := 3) dL_law_411 rfl rfl ?_
  refine y_saldN dL_law_412 rfl rfl (by omega) (by omega) ?_
  refine y_aload_n dL_law_413 rfl rfl ?_
  refine y_iload_n dL_law_414 rfl rfl ?_
  refine y_iconst (v := 4) dL_law_415 (by decide) ?_
  refine y_iaddN (a := p) (b := 4) dL_law_416 rfl rfl ?_
  refine y_saldN dL_law_417 rfl rfl (by omega) (by omega) ?_
  refine y_aload_n dL_law_418 rfl rfl ?_
  refine y_iload_n dL_law_419 rfl rfl ?_
  refine y_iconst (v := 5) dL_law_420 (by decide) ?_
  refine y_iaddN (a := p) (b := 5) dL_law_421 rfl rfl ?_
  refine y_saldN dL_law_422 rfl rfl (by omega) (by omega) ?_
  refine y_ivI5 dL_law_423 mv_L_36 my_X12_copy (Or.inl rfl) sh_239 ?_
  refine sRun_mono ?_ hk
  intro r2 m2 n2 z2
  obtain ⟨e2, h2⟩ := z2
  refine ⟨v, e2, ?_⟩
  refine y_icmp_eq (tgt := 1562) dL_law_426 (by decide) (fun h426 => ?_) (fun h426 => absurd rfl h426)
  exact tail m2 n2 h2
theorem lw_5 {L : Nat} {xs : Nat → Int32} {d p : Nat} {m : sM} {n : sN} {Q : sQ} (hL : L ≤ 3072) (hp : p + 6 ≤ L) (h : Rel m n) (tail : ∀ (m : sM) (n : sN), Rel m n → sV (scT L xs) (d + 11) "LoafFallLaw" cL_law 4 (some .boolean) Q 1562 [some (.ref (100000 + 6)), some (.ref 0), some (.ref 239), some (.int (nI p))] [] m n) : sV (scT L xs) (d + 11) "LoafFallLaw" cL_law 4 (some .boolean) Q 431 [some (.ref (100000 + 6)), some (.ref 0), some (.ref 239), some (.int (nI p))] [] m n := by
  refine y_aload_n dL_law_431 rfl rfl ?_
  refine y_aload_n dL_law_432 rfl rfl ?_
  refine y_iload_n dL_law_433 rfl rfl ?_
  refine y_iconst (v := 1) dL_law_434 (by decide) ?_
  refine y_iaddN (a := p) (b := 1) dL_law_435 rfl rfl ?_
  refine y_saldN dL_law_436 rfl rfl (by omega) (by omega) ?_
  refine y_ivI1 dL_law_437 mv_L_37 my_X11_mean (Or.inl rfl) sh_0 ?_
  refine sRun_mono ?_ (p_mean h)
  intro r1 m1 n1 z1
  obtain ⟨v, e1, hk⟩ := z1
  refine ⟨v, e1, ?_⟩
  refine y_aload_n dL_law_440 rfl rfl ?_
  refine y_aload_n dL_law_441 rfl rfl ?_
  refine y_iload_n dL_law_442 rfl rfl ?_
  refine y_iconst (v := 1) dL_law_443 (by decide) ?_
  refine y_iaddN (a := p) (b := 1) dL_law_444 rfl rfl ?_
  refine y_saldN dL_law_445 rfl rfl (by omega) (by omega) ?_
  refine y_ivI1 dL_law_446 mv_L_40 my_X12_mean (Or.inl rfl) sh_239 ?_
  refine sRun_mono ?_ hk
  intro r2 m2 n2 z2
  obtain ⟨e2, h2⟩ := z2
  refine ⟨v, e2, ?_⟩
  refine y_icmp_eq (tgt := 1562) dL_law_449 (by decide) (fun h449 => ?_) (fun h449 => absurd rfl h449)
  exact tail m2 n2 h2
theorem lw_6 {L : Nat} {xs : Nat → Int32} {d p : Nat} {m : sM} {n : sN} {Q : sQ} (hL : L ≤ 3072) (hp : p + 6 ≤ L) (h : Rel m n) (tail : ∀ (m : sM) (n : sN), Rel m n → sV (scT L xs) (d + 11) "LoafFallLaw" cL_law 4 (some .boolean) Q 1562 [some (.ref (100000 + 6)), some (.ref 0), some (.ref 239), some (.int (nI p))] [] m n) : sV (scT L xs) (d + 11) "LoafFallLaw" cL_law 4 (some .boolean) Q 454 [some (.ref (100000 + 6)), some (.ref 0), some (.ref 239), some (.int (nI p))] [] m n := by
  refine y_aload_n dL_law_454 rfl rfl ?_
  refine y_aload_n dL_law_455 rfl rfl ?_
  refine y_iload_n dL_law_456 rfl rfl ?_
  refine y_iconst (v := 1) dL_law_457 (by decide) ?_
  refine y_iaddN (a := p) (b := 1) dL_law_458 rfl rfl ?_
  refine y_saldN dL_law_459 rfl rfl (by omega) (by omega) ?_
  refine y_aload_n dL_law_460 rfl rfl ?_
  refine y_iload_n dL_law_461 rfl rfl ?_
  refine y_iconst (v := 2) dL_law_462 (by decide) ?_
  refine y_iaddN (a := p) (b := 2) dL_law_463 rfl rfl ?_
  refine y_saldN dL_law_464 rfl rfl (by omega) (by omega) ?_
  refine y_ivI2 dL_law_465 mv_L_41 my_X11_text (Or.inl rfl) sh_0 ?_
  refine sRun_mono ?_ (p_text h)
  intro r1 m1 n1 z1
  obtain ⟨v, e1, hk⟩ := z1
  refine ⟨v, e1, ?_⟩
  refine y_aload_n dL_law_468 rfl rfl ?_
  refine y_aload_n dL_law_469 rfl rfl ?_
  refine y_iload_n dL_law_470 rfl rfl ?_
  refine y_iconst (v := 1) dL_law_471 (by decide) ?_
  refine y_iaddN (a := p) (b := 1) dL_law_472 rfl rfl ?_
  refine y_saldN dL_law_473 rfl rfl (by omega) (by omega) ?_
  refine y_aload_n dL_law_474 rfl rfl ?_
  refine y_iload_n dL_law_475 rfl rfl ?_
  refine y_iconst (v := 2) dL_law_476 (by decide) ?_
  refine y_iaddN (a := p) (b := 2) dL_law_477 rfl rfl ?_
  refine y_saldN dL_law_478 rfl rfl (by omega) (by omega) ?_
  refine y_ivI2 dL_law_479 mv_L_44 my_X12_text (Or.inl rfl) sh_239 ?_
  refine sRun_mono ?_ hk
  intro r2 m2 n2 z2
  obtain ⟨e2, h2⟩ := z2
  refine ⟨v, e2, ?_⟩
  refine y_icmp_eq (tgt := 1562) dL_law_482 (by decide) (fun h482 => ?_) (fun h482 => absurd rfl h482)
  exact tail m2 n2 h2
theorem lw_7 {L : Nat} {xs : Nat → Int32} {d p : Nat} {m : sM} {n : sN} {Q : sQ} (hL : L ≤ 3072) (hp : p + 6 ≤ L) (h : Rel m n) (tail : ∀ (m : sM) (n : sN), Rel m n → sV (scT L xs) (d + 11) "LoafFallLaw" cL_law 4 (some .boolean) Q 1562 [some (.ref (100000 + 6)), some (.ref 0), some (.ref 239), some (.int (nI p))] [] m n) : sV (scT L xs) (d + 11) "LoafFallLaw" cL_law 4 (some .boolean) Q 487 [some (.ref (100000 + 6)), some (.ref 0), some (.ref 239), some (.int (nI p))] [] m n := by
  refine y_aload_n dL_law_487 rfl rfl ?_
  refine y_aload_n dL_law_488 rfl rfl ?_
  refine y_iload_n dL_law_489 rfl rfl ?_
  refine y_iconst (v := 1) dL_law_490 (by decide) ?_
  refine y_iaddN (a := p) (b := 1) dL_law_491 rfl rfl ?_
  refine y_saldN dL_law_492 rfl rfl (by omega) (by omega) ?_
  refine y_aload_n dL_law_493 rfl rfl ?_
  refine y_iload_n dL_law_494 rfl rfl ?_
  refine y_iconst (v := 2) dL_law_495 (by decide) ?_
  refine y_iaddN (a := p) (b := 2) dL_law_496 rfl rfl ?_
  refine y_saldN dL_law_497 rfl rfl (by omega) (by omega) ?_
  refine y_aload_n dL_law_498 rfl rfl ?_
  refine y_iload_n dL_law_499 rfl rfl ?_
  refine y_iconst (v := 3) dL_law_500 (by decide) ?_
  refine y_iaddN (a := p) (b := 3) dL_law_501 rfl rfl ?_
  refine y_saldN dL_law_502 rfl rfl (by omega) (by omega) ?_
  refine y_ivI3 dL_law_503 mv_L_45 my_X11_put (Or.inl rfl) sh_0 ?_
  refine sRun_mono ?_ (p_put h)
  intro r1 m1 n1 z1
  obtain ⟨v, e1, hk⟩ := z1
  refine ⟨v, e1, ?_⟩
  refine y_aload_n dL_law_506 rfl rfl ?_
  refine y_aload_n dL_law_507 rfl rfl ?_
  refine y_iload_n dL_law_508 rfl rfl ?_
  refine y_iconst (v := 1) dL_law_509 (by decide) ?_
  refine y_iaddN (a := p) (b := 1) dL_law_510 rfl rfl ?_
  refine y_saldN dL_law_511 rfl rfl (by omega) (by omega) ?_
  refine y_aload_n dL_law_512 rfl rfl ?_
  refine y_iload_n dL_law_513 rfl rfl ?_
  refine y_iconst (v := 2) dL_law_514 (by decide) ?_
  refine y_iaddN (a := p) (b := 2) dL_law_515 rfl rfl ?_
  refine y_saldN dL_law_516 rfl rfl (by omega) (by omega) ?_
  refine y_aload_n dL_law_517 rfl rfl ?_
  refine y_iload_n dL_law_518 rfl rfl ?_
  refine y_iconst (v := 3) dL_law_519 (by decide) ?_
  refine y_iaddN (a := p) (b := 3) dL_law_520 rfl rfl ?_
  refine y_saldN dL_law_521 rfl rfl (by omega) (by omega) ?_
  refine y_ivI3 dL_law_522 mv_L_48 my_X12_put (Or.inl rfl) sh_239 ?_
  refine sRun_mono ?_ hk
  intro r2 m2 n2 z2
  obtain ⟨e2, h2⟩ := z2
  refine ⟨v, e2, ?_⟩
  refine y_icmp_eq (tgt := 1562) dL_law_525 (by decide) (fun h525 => ?_) (fun h525 => absurd rfl h525)
  exact tail m2 n2 h2
theorem lw_8 {L : Nat} {xs : Nat → Int32} {d p : Nat} {m : sM} {n : sN} {Q : sQ} (hL : L ≤ 3072) (hp : p + 6 ≤ L) (h : Rel m n) (tail : ∀ (m : sM) (n : sN), Rel m n → sV (scT L xs) (d + 11) "LoafFallLaw" cL_law 4 (some .boolean) Q 1562 [some (.ref (100000 + 6)), some (.ref 0), some (.ref 239), some (.int (nI p))] [] m n) : sV (scT L xs) (d + 11) "LoafFallLaw" cL_law 4 (some .boolean) Q 530 [some (.ref (100000 + 6)), some (.ref 0), some (.ref 239), some (.int (nI p))] [] m n := by
  by_cases hb : xs (p + 2) = 0
  · refine y_aload_n dL_law_530 rfl rfl ?_
    refine y_aload_n dL_law_531 rfl rfl ?_
    refine y_iload_n dL_law_532 rfl rfl ?_
    refine y_iconst (v := 1) dL_law_533 (by decide) ?_
    refine y_iaddN (a := p) (b := 1) dL_law_534 rfl rfl ?_
    refine y_saldN dL_law_535 rfl rfl (by omega) (by omega) ?_
    refine y_aload_n dL_law_536 rfl rfl ?_
    refine y_iload_n dL_law_537 rfl rfl ?_
    refine y_iconst (v := 2) dL_law_538 (by decide) ?_
    refine y_iaddN (a := p) (b := 2) dL_law_539 rfl rfl ?_
    refine y_saldN dL_law_540 rfl rfl (by omega) (by omega) ?_
    refine y_if_eq (tgt := 548) dL_law_541 (by decide) (fun h541 => ?_) (fun h541 => absurd hb h541)
    refine y_iconst (v := 0) dL_law_548 (by decide) ?_
    refine y_ivI2 dL_law_549 mv_L_49 my_X11_fault (Or.inl rfl) sh_0 ?_
    refine sRun_mono ?_ (p_fault h)
    intro r1 m1 n1 z1
    obtain ⟨v, e1, hk⟩ := z1
    refine ⟨v, e1, ?_⟩
    refine y_aload_n dL_law_552 rfl rfl ?_
    refine y_aload_n dL_law_553 rfl rfl ?_
    refine y_iload_n dL_law_554 rfl rfl ?_
    refine y_iconst (v := 1) dL_law_555 (by decide) ?_
    refine y_iaddN (a := p) (b := 1) dL_law_556 rfl rfl ?_
    refine y_saldN dL_law_557 rfl rfl (by omega) (by omega) ?_
    refine y_aload_n dL_law_558 rfl rfl ?_
    refine y_iload_n dL_law_559 rfl rfl ?_
    refine y_iconst (v := 2) dL_law_560 (by decide) ?_
    refine y_iaddN (a := p) (b := 2) dL_law_561 rfl rfl ?_
    refine y_saldN dL_law_562 rfl rfl (by omega) (by omega) ?_
    refine y_if_eq (tgt := 570) dL_law_563 (by decide) (fun h563 => ?_) (fun h563 => absurd hb h563)
    refine y_iconst (v := 0) dL_law_570 (by decide) ?_
    refine y_ivI2 dL_law_571 mv_L_53 my_X12_fault (Or.inl rfl) sh_239 ?_
    refine sRun_mono ?_ hk
    intro r2 m2 n2 z2
    obtain ⟨e2, h2⟩ := z2
    refine ⟨v, e2, ?_⟩
    refine y_icmp_eq (tgt := 1562) dL_law_574 (by decide) (fun h574 => ?_) (fun h574 => absurd rfl h574)
    exact tail m2 n2 h2
  · refine y_aload_n dL_law_530 rfl rfl ?_
    refine y_aload_n dL_law_531 rfl rfl ?_
    refine y_iload_n dL_law_532 rfl rfl ?_
    refine y_iconst (v := 1) dL_law_533 (by decide) ?_
    refine y_iaddN (a := p) (b := 1) dL_law_534 rfl rfl ?_
    refine y_saldN dL_law_535 rfl rfl (by omega) (by omega) ?_
    refine y_aload_n dL_law_536 rfl rfl ?_
    refine y_iload_n dL_law_537 rfl rfl ?_
    refine y_iconst (v := 2) dL_law_538 (by decide) ?_
    refine y_iaddN (a := p) (b := 2) dL_law_539 rfl rfl ?_
    refine y_saldN dL_law_540 rfl rfl (by omega) (by omega) ?_
    refine y_if_eq (tgt := 548) dL_law_541 (by decide) (fun h541 => absurd h541 hb) (fun h541 => ?_)
    refine y_iconst (v := 1) dL_law_544 (by decide) ?_
    refine y_goto (tgt := 549) dL_law_545 (by decide) ?_
    refine y_ivI2 dL_law_549 mv_L_49 my_X11_fault (Or.inl rfl) sh_0 ?_
    refine sRun_mono ?_ (p_fault h)
    intro r1 m1 n1 z1
    obtain ⟨v, e1, hk⟩ := z1
    refine ⟨v, e1, ?_⟩
    refine y_aload_n dL_law_552 rfl rfl ?_
    refine y_aload_n dL_law_553 rfl rfl ?_
    refine y_iload_n dL_law_554 rfl rfl ?_
    refine y_iconst (v := 1) dL_law_555 (by decide) ?_
    refine y_iaddN (a := p) (b := 1) dL_law_556 rfl rfl ?_
    refine y_saldN dL_law_557 rfl rfl (by omega) (by omega) ?_
    refine y_aload_n dL_law_558 rfl rfl ?_
    refine y_iload_n dL_law_559 rfl rfl ?_
    refine y_iconst (v := 2) dL_law_560 (by decide) ?_
    refine y_iaddN (a := p) (b := 2) dL_law_561 rfl rfl ?_
    refine y_saldN dL_law_562 rfl rfl (by omega) (by omega) ?_
    refine y_if_eq (tgt := 570) dL_law_563 (by decide) (fun h563 => absurd h563 hb) (fun h563 => ?_)
    refine y_iconst (v := 1) dL_law_566 (by decide) ?_
    refine y_goto (tgt := 571) dL_law_567 (by decide) ?_
    refine y_ivI2 dL_law_571 mv_L_53 my_X12_fault (Or.inl rfl) sh_239 ?_
    refine sRun_mono ?_ hk
    intro r2 m2 n2 z2
    obtain ⟨e2, h2⟩ := z2
    refine ⟨v, e2, ?_⟩
    refine y_icmp_eq (tgt := 1562) dL_law_574 (by decide) (fun h574 => ?_) (fun h574 => absurd rfl h574)
    exact tail m2 n2 h2
theorem lw_9 {L : Nat} {xs : Nat → Int32} {d p : Nat} {m : sM} {n : sN} {Q : sQ} (hL : L ≤ 3072) (hp : p + 6 ≤ L) (h : Rel m n) (tail : ∀ (m : sM) (n : sN), Rel m n → sV (scT L xs) (d + 11) "LoafFallLaw" cL_law 4 (some .boolean) Q 1562 [some (.ref (100000 + 6)), some (.ref 0), some (.ref 239), some (.int (nI p))] [] m n) : sV (scT L xs) (d + 11) "LoafFallLaw" cL_law 4 (some .boolean) Q 579 [some (.ref (100000 + 6)), some (.ref 0), some (.ref 239), some (.int (nI p))] [] m n := by
  refine y_aload_n dL_law_579 rfl rfl ?_
  refine y_aload_n dL_law_580 rfl rfl ?_
  refine y_iload_n dL_law_581 rfl rfl ?_
  refine y_iconst (v := 1) dL_law_582 (by decide) ?_
  refine y_iaddN (a := p) (b := 1) dL_law_583 rfl rfl ?_
  refine y_saldN dL_law_584 rfl rfl (by omega) (by omega) ?_
  refine y_aload_n dL_law_585 rfl rfl ?_
  refine y_iload_n dL_law_586 rfl rfl ?_
  refine y_iconst (v := 2) dL_law_587 (by decide) ?_
  refine y_iaddN (a := p) (b := 2) dL_law_588 rfl rfl ?_
  refine y_saldN dL_law_589 rfl rfl (by omega) (by omega) ?_
  refine y_ivI2 dL_law_590 mv_L_54 my_X11_flour (Or.inl rfl) sh_0 ?_
  refine sRun_mono ?_ (p_flour h)
  intro r1 m1 n1 z1
  obtain ⟨v, e1, hk⟩ := z1
  refine ⟨v, e1, ?_⟩
  refine y_aload_n dL_law_593 rfl rfl ?_
  refine y_aload_n dL_law_594 rfl rfl ?_
  refine y_iload_n dL_law_595 rfl rfl ?_
  refine y_iconst (v := 1) dL_law_596 (by decide) ?_
  refine y_iaddN (a := p) (b := 1) dL_law_597 rfl rfl ?_
  refine y_saldN dL_law_598 rfl rfl (by omega) (by omega) ?_
  refine y_aload_n dL_law_599 rfl rfl ?_
  refine y_iload_n dL_law_600 rfl rfl ?_
  refine y_iconst (v := 2) dL_law_601 (by decide) ?_
  refine y_iaddN (a := p) (b := 2) dL_law_602 rfl rfl ?_
  refine y_saldN dL_law_603 rfl rfl (by omega) (by omega) ?_
  refine y_ivI2 dL_law_604 mv_L_57 my_X12_flour (Or.inl rfl) sh_239 ?_
  refine sRun_mono ?_ hk
  intro r2 m2 n2 z2
  obtain ⟨e2, h2⟩ := z2
  refine ⟨v, e2, ?_⟩
  refine y_icmp_eq (tgt := 1562) dL_law_607 (by decide) (fun h607 => ?_) (fun h607 => absurd rfl h607)
  exact tail m2 n2 h2
theorem lw_10 {L : Nat} {xs : Nat → Int32} {d p : Nat} {m : sM} {n : sN} {Q : sQ} (hL : L ≤ 3072) (hp : p + 6 ≤ L) (h : Rel m n) (tail : ∀ (m : sM) (n : sN), Rel m n → sV (scT L xs) (d + 11) "LoafFallLaw" cL_law 4 (some .boolean) Q 1562 [some (.ref (100000 + 6)), some (.ref 0), some (.ref 239), some (.int (nI p))] [] m n) : sV (scT L xs) (d + 11) "LoafFallLaw" cL_law 4 (some .boolean) Q 612 [some (.ref (100000 + 6)), some (.ref 0), some (.ref 239), some (.int (nI p))] [] m n := by
  refine y_aload_n dL_law_612 rfl rfl ?_
  refine y_aload_n dL_law_613 rfl rfl ?_
  refine y_iload_n dL_law_614 rfl rfl ?_
  refine y_iconst (v := 1) dL_law_615 (by decide) ?_
  refine y_iaddN (a := p) (b := 1) dL_law_616 rfl rfl ?_
  refine y_saldN dL_law_617 rfl rfl (by omega) (by omega) ?_
  refine y_aload_n dL_law_618 rfl rfl ?_
  refine y_iload_n dL_law_619 rfl rfl ?_
  refine y_iconst (v := 2) dL_law_620 (by decide) ?_
  refine y_iaddN (a := p) (b := 2) dL_law_621 rfl rfl ?_
  refine y_saldN dL_law_622 rfl rfl (by omega) (by omega) ?_
  refine y_ivI2 dL_law_623 mv_L_58 my_X11_doing (Or.inl rfl) sh_0 ?_
  refine sRun_mono ?_ (p_doing h)
  intro r1 m1 n1 z1
  obtain ⟨v, e1, hk⟩ := z1
  refine ⟨v, e1, ?_⟩
  refine y_aload_n dL_law_626 rfl rfl ?_
  refine y_aload_n dL_law_627 rfl rfl ?_
  refine y_iload_n dL_law_628 rfl rfl ?_
  refine y_iconst (v := 1) dL_law_629 (by decide) ?_
  refine y_iaddN (a := p) (b := 1) dL_law_630 rfl rfl ?_
  refine y_saldN dL_law_631 rfl rfl (by omega) (by omega) ?_
  refine y_aload_n dL_law_632 rfl rfl ?_
  refine y_iload_n dL_law_633 rfl rfl ?_
  refine y_iconst (v := 2) dL_law_634 (by decide) ?_
  refine y_iaddN (a := p) (b := 2) dL_law_635 rfl rfl ?_
  refine y_saldN dL_law_636 rfl rfl (by omega) (by omega) ?_
  refine y_ivI2 dL_law_637 mv_L_61 my_X12_doing (Or.inl rfl) sh_239 ?_
  refine sRun_mono ?_ hk
  intro r2 m2 n2 z2
  obtain ⟨e2, h2⟩ := z2
  refine ⟨v, e2, ?_⟩
  refine y_icmp_eq (tgt := 1562) dL_law_640 (by decide) (fun h640 => ?_) (fun h640 => absurd rfl h640)
  exact tail m2 n2 h2
theorem lw_11 {L : Nat} {xs : Nat → Int32} {d p : Nat} {m : sM} {n : sN} {Q : sQ} (hL : L ≤ 3072) (hp : p + 6 ≤ L) (h : Rel m n) (tail : ∀ (m : sM) (n : sN), Rel m n → sV (scT L xs) (d + 11) "LoafFallLaw" cL_law 4 (some .boolean) Q 1562 [some (.ref (100000 + 6)), some (.ref 0), some (.ref 239), some (.int (nI p))] [] m n) : sV (scT L xs) (d + 11) "LoafFallLaw" cL_law 4 (some .boolean) Q 645 [some (.ref (100000 + 6)), some (.ref 0), some (.ref 239), some (.int (nI p))] [] m n := by
  refine y_aload_n dL_law_645 rfl rfl ?_
  refine y_aload_n dL_law_646 rfl rfl ?_
  refine y_iload_n dL_law_647 rfl rfl ?_
  refine y_iconst (v := 1) dL_law_648 (by decide) ?_
  refine y_iaddN (a := p) (b := 1) dL_law_649 rfl rfl ?_
  refine y_saldN dL_law_650 rfl rfl (by omega) (by omega) ?_
  refine y_aload_n dL_law_651 rfl rfl ?_
  refine y_iload_n dL_law_652 rfl rfl ?_
  refine y_iconst (v := 2) dL_law_653 (by decide) ?_
  refine y_iaddN (a := p) (b := 2) dL_law_654 rfl rfl ?_
  refine y_saldN dL_law_655 rfl rfl (by omega) (by omega) ?_
  refine y_ivI2 dL_law_656 mv_L_62 my_X11_about (Or.inl rfl) sh_0 ?_
  refine sRun_mono ?_ (p_about h)
  intro r1 m1 n1 z1
  obtain ⟨v, e1, hk⟩ := z1
  refine ⟨v, e1, ?_⟩
  refine y_aload_n dL_law_659 rfl rfl ?_
  refine y_aload_n dL_law_660 rfl rfl ?_
  refine y_iload_n dL_law_661 rfl rfl ?_
  refine y_iconst (v := 1) dL_law_662 (by decide) ?_
  refine y_iaddN (a := p) (b := 1) dL_law_663 rfl rfl ?_
  refine y_saldN dL_law_664 rfl rfl (by omega) (by omega) ?_
  refine y_aload_n dL_law_665 rfl rfl ?_
  refine y_iload_n dL_law_666 rfl rfl ?_
  refine y_iconst (v := 2) dL_law_667 (by decide) ?_
  refine y_iaddN (a := p) (b := 2) dL_law_668 rfl rfl ?_
  refine y_saldN dL_law_669 rfl rfl (by omega) (by omega) ?_
  refine y_ivI2 dL_law_670 mv_L_65 my_X12_about (Or.inl rfl) sh_239 ?_
  refine sRun_mono ?_ hk
  intro r2 m2 n2 z2
  obtain ⟨e2, h2⟩ := z2
  refine ⟨v, e2, ?_⟩
  refine y_icmp_eq (tgt := 1562) dL_law_673 (by decide) (fun h673 => ?_) (fun h673 => absurd rfl h673)
  exact tail m2 n2 h2
theorem lw_12 {L : Nat} {xs : Nat → Int32} {d p : Nat} {m : sM} {n : sN} {Q : sQ} (hL : L ≤ 3072) (hp : p + 6 ≤ L) (h : Rel m n) (tail : ∀ (m : sM) (n : sN), Rel m n → sV (scT L xs) (d + 11) "LoafFallLaw" cL_law 4 (some .boolean) Q 1562 [some (.ref (100000 + 6)), some (.ref 0), some (.ref 239), some (.int (nI p))] [] m n) : sV (scT L xs) (d + 11) "LoafFallLaw" cL_law 4 (some .boolean) Q 678 [some (.ref (100000 + 6)), some (.ref 0), some (.ref 239), some (.int (nI p))] [] m n := by
  refine y_aload_n dL_law_678 rfl rfl ?_
  refine y_aload_n dL_law_679 rfl rfl ?_
  refine y_iload_n dL_law_680 rfl rfl ?_
  refine y_iconst (v := 1) dL_law_681 (by decide) ?_
  refine y_iaddN (a := p) (b := 1) dL_law_682 rfl rfl ?_
  refine y_saldN dL_law_683 rfl rfl (by omega) (by omega) ?_
  refine y_aload_n dL_law_684 rfl rfl ?_
  refine y_iload_n dL_law_685 rfl rfl ?_
  refine y_iconst (v := 2) dL_law_686 (by decide) ?_
  refine y_iaddN (a := p) (b := 2) dL_law_687 rfl rfl ?_
  refine y_saldN dL_law_688 rfl rfl (by omega) (by omega) ?_
  refine y_ivI2 dL_law_689 mv_L_66 my_X11_step (Or.inl rfl) sh_0 ?_
  refine sRun_mono ?_ (p_step h)
  intro r1 m1 n1 z1
  obtain ⟨v, e1, hk⟩ := z1
  refine ⟨v, e1, ?_⟩
  refine y_aload_n dL_law_692 rfl rfl ?_
  refine y_aload_n dL_law_693 rfl rfl ?_
  refine y_iload_n dL_law_694 rfl rfl ?_
  refine y_iconst (v := 1) dL_law_695 (by decide) ?_
  refine y_iaddN (a := p) (b := 1) dL_law_696 rfl rfl ?_
  refine y_saldN dL_law_697 rfl rfl (by omega) (by omega) ?_
  refine y_aload_n dL_law_698 rfl rfl ?_
  refine y_iload_n dL_law_699 rfl rfl ?_
  refine y_iconst (v := 2) dL_law_700 (by decide) ?_
  refine y_iaddN (a := p) (b := 2) dL_law_701 rfl rfl ?_
  refine y_saldN dL_law_702 rfl rfl (by omega) (by omega) ?_
  refine y_ivI2 dL_law_703 mv_L_69 my_X12_step (Or.inl rfl) sh_239 ?_
  refine sRun_mono ?_ hk
  intro r2 m2 n2 z2
  obtain ⟨e2, h2⟩ := z2
  refine ⟨v, e2, ?_⟩
  refine y_icmp_eq (tgt := 1562) dL_law_706 (by decide) (fun h706 => ?_) (fun h706 => absurd rfl h706)
  exact tail m2 n2 h2
theorem lw_13 {L : Nat} {xs : Nat → Int32} {d p : Nat} {m : sM} {n : sN} {Q : sQ} (hL : L ≤ 3072) (hp : p + 6 ≤ L) (h : Rel m n) (tail : ∀ (m : sM) (n : sN), Rel m n → sV (scT L xs) (d + 11) "LoafFallLaw" cL_law 4 (some .boolean) Q 1562 [some (.ref (100000 + 6)), some (.ref 0), some (.ref 239), some (.int (nI p))] [] m n) : sV (scT L xs) (d + 11) "LoafFallLaw" cL_law 4 (some .boolean) Q 711 [some (.ref (100000 + 6)), some (.ref 0), some (.ref 239), some (.int (nI p))] [] m n := by
  refine y_aload_n dL_law_711 rfl rfl ?_
  refine y_aload_n dL_law_712 rfl rfl ?_
  refine y_iload_n dL_law_713 rfl rfl ?_
  refine y_iconst (v := 1) dL_law_714 (by decide) ?_
  refine y_iaddN (a := p) (b := 1) dL_law_715 rfl rfl ?_
  refine y_saldN dL_law_716 rfl rfl (by omega) (by omega) ?_
  refine y_aload_n dL_law_717 rfl rfl ?_
  refine y_iload_n dL_law_718 rfl rfl ?_
  refine y_iconst (v := 2) dL_law_719 (by decide) ?_
  refine y_iaddN (a := p) (b := 2) dL_law_720 rfl rfl ?_
  refine y_saldN dL_law_721 rfl rfl (by omega) (by omega) ?_
  refine y_ivI2 dL_law_722 mv_L_70 my_X11_loaf (Or.inl rfl) sh_0 ?_
  refine sRun_mono ?_ (p_loaf h)
  intro r1 m1 n1 z1
  obtain ⟨v, e1, hk⟩ := z1
  refine ⟨v, e1, ?_⟩
  refine y_aload_n dL_law_725 rfl rfl ?_
  refine y_aload_n dL_law_726 rfl rfl ?_
  refine y_iload_n dL_law_727 rfl rfl ?_
  refine y_iconst (v := 1) dL_law_728 (by decide) ?_
  refine y_iaddN (a := p) (b := 1) dL_law_729 rfl rfl ?_
  refine y_saldN dL_law_730 rfl rfl (by omega) (by omega) ?_
  refine y_aload_n dL_law_731 rfl rfl ?_
  refine y_iload_n dL_law_732 rfl rfl ?_
  refine y_iconst (v := 2) dL_law_733 (by decide) ?_
  refine y_iaddN (a := p) (b := 2) dL_law_734 rfl rfl ?_
  refine y_saldN dL_law_735 rfl rfl (by omega) (by omega) ?_
  refine y_ivI2 dL_law_736 mv_L_73 my_X12_loaf (Or.inl rfl) sh_239 ?_
  refine sRun_mono ?_ hk
  intro r2 m2 n2 z2
  obtain ⟨e2, h2⟩ := z2
  refine ⟨v, e2, ?_⟩
  refine y_icmp_eq (tgt := 1562) dL_law_739 (by decide) (fun h739 => ?_) (fun h739 => absurd rfl h739)
  exact tail m2 n2 h2
theorem lw_14 {L : Nat} {xs : Nat → Int32} {d p : Nat} {m : sM} {n : sN} {Q : sQ} (hL : L ≤ 3072) (hp : p + 6 ≤ L) (h : Rel m n) (tail : ∀ (m : sM) (n : sN), Rel m n → sV (scT L xs) (d + 11) "LoafFallLaw" cL_law 4 (some .boolean) Q 1562 [some (.ref (100000 + 6)), some (.ref 0), some (.ref 239), some (.int (nI p))] [] m n) : sV (scT L xs) (d + 11) "LoafFallLaw" cL_law 4 (some .boolean) Q 744 [some (.ref (100000 + 6)), some (.ref 0), some (.ref 239), some (.int (nI p))] [] m n := by
  refine y_aload_n dL_law_744 rfl rfl ?_
  refine y_aload_n dL_law_745 rfl rfl ?_
  refine y_iload_n dL_law_746 rfl rfl ?_
  refine y_iconst (v := 1) dL_law_747 (by decide) ?_
  refine y_iaddN (a := p) (b := 1) dL_law_748 rfl rfl ?_
  refine y_saldN dL_law_749 rfl rfl (by omega) (by omega) ?_
  refine y_ivI1 dL_law_750 mv_L_74 my_X11_go (Or.inl rfl) sh_0 ?_
  refine sRun_mono ?_ (p_go h)
  intro r1 m1 n1 z1
  obtain ⟨v, e1, hk⟩ := z1
  refine ⟨v, e1, ?_⟩
  refine y_aload_n dL_law_753 rfl rfl ?_
  refine y_aload_n dL_law_754 rfl rfl ?_
  refine y_iload_n dL_law_755 rfl rfl ?_
  refine y_iconst (v := 1) dL_law_756 (by decide) ?_
  refine y_iaddN (a := p) (b := 1) dL_law_757 rfl rfl ?_
  refine y_saldN dL_law_758 rfl rfl (by omega) (by omega) ?_
  refine y_ivI1 dL_law_759 mv_L_77 my_X12_go (Or.inl rfl) sh_239 ?_
  refine sRun_mono ?_ hk
  intro r2 m2 n2 z2
  obtain ⟨e2, h2⟩ := z2
  refine ⟨v, e2, ?_⟩
  refine y_icmp_eq (tgt := 1562) dL_law_762 (by decide) (fun h762 => ?_) (fun h762 => absurd rfl h762)
  exact tail m2 n2 h2
theorem lw_15 {L : Nat} {xs : Nat → Int32} {d p : Nat} {m : sM} {n : sN} {Q : sQ} (hL : L ≤ 3072) (hp : p + 6 ≤ L) (h : Rel m n) (tail : ∀ (m : sM) (n : sN), Rel m n → sV (scT L xs) (d + 11) "LoafFallLaw" cL_law 4 (some .boolean) Q 1562 [some (.ref (100000 + 6)), some (.ref 0), some (.ref 239), some (.int (nI p))] [] m n) : sV (scT L xs) (d + 11) "LoafFallLaw" cL_law 4 (some .boolean) Q 767 [some (.ref (100000 + 6)), some (.ref 0), some (.ref 239), some (.int (nI p))] [] m n := by
  refine y_aload_n dL_law_767 rfl rfl ?_
  refine y_aload_n dL_law_768 rfl rfl ?_
  refine y_iload_n dL_law_769 rfl rfl ?_
  refine y_iconst (v := 1) dL_law_770 (by decide) ?_
  refine y_iaddN (a := p) (b := 1) dL_law_771 rfl rfl ?_
  refine y_saldN dL_law_772 rfl rfl (by omega) (by omega) ?_
  refine y_aload_n dL_law_773 rfl rfl ?_
  refine y_iload_n dL_law_774 rfl rfl ?_
  refine y_iconst (v := 2) dL_law_775 (by decide) ?_
  refine y_iaddN (a := p) (b := 2) dL_law_776 rfl rfl ?_
  refine y_saldN dL_law_777 rfl rfl (by omega) (by omega) ?_
  refine y_ivI2 dL_law_778 mv_L_78 my_X11_cell (Or.inl rfl) sh_0 ?_
  refine sRun_mono ?_ (p_cell h)
  intro r1 m1 n1 z1
  obtain ⟨v, e1, hk⟩ := z1
  refine ⟨v, e1, ?_⟩
  refine y_aload_n dL_law_781 rfl rfl ?_
  refine y_aload_n dL_law_782 rfl rfl ?_
  refine y_iload_n dL_law_783 rfl rfl ?_
  refine y_iconst (v := 1) dL_law_784 (by decide) ?_
  refine y_iaddN (a := p) (b := 1) dL_law_785 rfl rfl ?_
  refine y_saldN dL_law_786 rfl rfl (by omega) (by omega) ?_
  refine y_aload_n dL_law_787 rfl rfl ?_
  refine y_iload_n dL_law_788 rfl rfl ?_
  refine y_iconst (v := 2) dL_law_789 (by decide) ?_
  refine y_iaddN (a := p) (b := 2) dL_law_790 rfl rfl ?_
  refine y_saldN dL_law_791 rfl rfl (by omega) (by omega) ?_
  refine y_ivI2 dL_law_792 mv_L_81 my_X12_cell (Or.inl rfl) sh_239 ?_
  refine sRun_mono ?_ hk
  intro r2 m2 n2 z2
  obtain ⟨e2, h2⟩ := z2
  refine ⟨v, e2, ?_⟩
  refine y_icmp_eq (tgt := 1562) dL_law_795 (by decide) (fun h795 => ?_) (fun h795 => absurd rfl h795)
  exact tail m2 n2 h2
theorem lw_16 {L : Nat} {xs : Nat → Int32} {d p : Nat} {m : sM} {n : sN} {Q : sQ} (hL : L ≤ 3072) (hp : p + 6 ≤ L) (h : Rel m n) (tail : ∀ (m : sM) (n : sN), Rel m n → sV (scT L xs) (d + 11) "LoafFallLaw" cL_law 4 (some .boolean) Q 1562 [some (.ref (100000 + 6)), some (.ref 0), some (.ref 239), some (.int (nI p))] [] m n) : sV (scT L xs) (d + 11) "LoafFallLaw" cL_law 4 (some .boolean) Q 800 [some (.ref (100000 + 6)), some (.ref 0), some (.ref 239), some (.int (nI p))] [] m n := by
  refine y_aload_n dL_law_800 rfl rfl ?_
  refine y_aload_n dL_law_801 rfl rfl ?_
  refine y_iload_n dL_law_802 rfl rfl ?_
  refine y_iconst (v := 1) dL_law_803 (by decide) ?_
  refine y_iaddN (a := p) (b := 1) dL_law_804 rfl rfl ?_
  refine y_saldN dL_law_805 rfl rfl (by omega) (by omega) ?_
  refine y_aload_n dL_law_806 rfl rfl ?_
  refine y_iload_n dL_law_807 rfl rfl ?_
  refine y_iconst (v := 2) dL_law_808 (by decide) ?_
  refine y_iaddN (a := p) (b := 2) dL_law_809 rfl rfl ?_
  refine y_saldN dL_law_810 rfl rfl (by omega) (by omega) ?_
  refine y_ivI2 dL_law_811 mv_L_82 my_X11_fall (Or.inl rfl) sh_0 ?_
  refine sRun_mono ?_ (p_fall h)
  intro r1 m1 n1 z1
  obtain ⟨v, e1, hk⟩ := z1
  refine ⟨v, e1, ?_⟩
  refine y_aload_n dL_law_814 rfl rfl ?_
  refine y_aload_n dL_law_815 rfl rfl ?_
  refine y_iload_n dL_law_816 rfl rfl ?_
  refine y_iconst (v := 1) dL_law_817 (by decide) ?_
  refine y_iaddN (a := p) (b := 1) dL_law_818 rfl rfl ?_
  refine y_saldN dL_law_819 rfl rfl (by omega) (by omega) ?_
  refine y_aload_n dL_law_820 rfl rfl ?_
  refine y_iload_n dL_law_821 rfl rfl ?_
  refine y_iconst (v := 2) dL_law_822 (by decide) ?_
  refine y_iaddN (a := p) (b := 2) dL_law_823 rfl rfl ?_
  refine y_saldN dL_law_824 rfl rfl (by omega) (by omega) ?_
  refine y_ivI2 dL_law_825 mv_L_85 my_X12_fall (Or.inl rfl) sh_239 ?_
  refine sRun_mono ?_ hk
  intro r2 m2 n2 z2
  obtain ⟨e2, h2⟩ := z2
  refine ⟨v, e2, ?_⟩
  refine y_icmp_eq (tgt := 1562) dL_law_828 (by decide) (fun h828 => ?_) (fun h828 => absurd rfl h828)
  exact tail m2 n2 h2
theorem lw_17 {L : Nat} {xs : Nat → Int32} {d p : Nat} {m : sM} {n : sN} {Q : sQ} (hL : L ≤ 3072) (hp : p + 6 ≤ L) (h : Rel m n) (tail : ∀ (m : sM) (n : sN), Rel m n → sV (scT L xs) (d + 11) "LoafFallLaw" cL_law 4 (some .boolean) Q 1562 [some (.ref (100000 + 6)), some (.ref 0), some (.ref 239), some (.int (nI p))] [] m n) : sV (scT L xs) (d + 11) "LoafFallLaw" cL_law 4 (some .boolean) Q 833 [some (.ref (100000 + 6)), some (.ref 0), some (.ref 239), some (.int (nI p))] [] m n := by
  refine y_aload_n dL_law_833 rfl rfl ?_
  refine y_aload_n dL_law_834 rfl rfl ?_
  refine y_iload_n dL_law_835 rfl rfl ?_
  refine y_iconst (v := 1) dL_law_836 (by decide) ?_
  refine y_iaddN (a := p) (b := 1) dL_law_837 rfl rfl ?_
  refine y_saldN dL_law_838 rfl rfl (by omega) (by omega) ?_
  refine y_aload_n dL_law_839 rfl rfl ?_
  refine y_iload_n dL_law_840 rfl rfl ?_
  refine y_iconst (v := 2) dL_law_841 (by decide) ?_
  refine y_iaddN (a := p) (b := 2) dL_law_842 rfl rfl ?_
  refine y_saldN dL_law_843 rfl rfl (by omega) (by omega) ?_
  refine y_ivI2 dL_law_844 mv_L_86 my_X11_mark (Or.inl rfl) sh_0 ?_
  refine sRun_mono ?_ (p_mark h)
  intro r1 m1 n1 z1
  obtain ⟨v, e1, hk⟩ := z1
  refine ⟨v, e1, ?_⟩
  refine y_aload_n dL_law_847 rfl rfl ?_
  refine y_aload_n dL_law_848 rfl rfl ?_
  refine y_iload_n dL_law_849 rfl rfl ?_
  refine y_iconst (v := 1) dL_law_850 (by decide) ?_
  refine y_iaddN (a := p) (b := 1) dL_law_851 rfl rfl ?_
  refine y_saldN dL_law_852 rfl rfl (by omega) (by omega) ?_
  refine y_aload_n dL_law_853 rfl rfl ?_
  refine y_iload_n dL_law_854 rfl rfl ?_
  refine y_iconst (v := 2) dL_law_855 (by decide) ?_
  refine y_iaddN (a := p) (b := 2) dL_law_856 rfl rfl ?_
  refine y_saldN dL_law_857 rfl rfl (by omega) (by omega) ?_
  refine y_ivI2 dL_law_858 mv_L_89 my_X12_mark (Or.inl rfl) sh_239 ?_
  refine sRun_mono ?_ hk
  intro r2 m2 n2 z2
  obtain ⟨e2, h2⟩ := z2
  refine ⟨v, e2, ?_⟩
  refine y_icmp_eq (tgt := 1562) dL_law_861 (by decide) (fun h861 => ?_) (fun h861 => absurd rfl h861)
  exact tail m2 n2 h2
theorem lw_18 {L : Nat} {xs : Nat → Int32} {d p : Nat} {m : sM} {n : sN} {Q : sQ} (hL : L ≤ 3072) (hp : p + 6 ≤ L) (h : Rel m n) (tail : ∀ (m : sM) (n : sN), Rel m n → sV (scT L xs) (d + 11) "LoafFallLaw" cL_law 4 (some .boolean) Q 1562 [some (.ref (100000 + 6)), some (.ref 0), some (.ref 239), some (.int (nI p))] [] m n) : sV (scT L xs) (d + 11) "LoafFallLaw" cL_law 4 (some .boolean) Q 866 [some (.ref (100000 + 6)), some (.ref 0), some (.ref 239), some (.int (nI p))] [] m n := by
  refine y_aload_n dL_law_866 rfl rfl ?_
  refine y_aload_n dL_law_867 rfl rfl ?_
  refine y_iload_n dL_law_868 rfl rfl ?_
  refine y_iconst (v := 1) dL_law_869 (by decide) ?_
  refine y_iaddN (a := p) (b := 1) dL_law_870 rfl rfl ?_
  refine y_saldN dL_law_871 rfl rfl (by omega) (by omega) ?_
  refine y_ivI1 dL_law_872 mv_L_90 my_X11_keep (Or.inl rfl) sh_0 ?_
  refine sRun_mono ?_ (p_keep h)
  intro r1 m1 n1 z1
  obtain ⟨v, e1, hk⟩ := z1
  refine ⟨v, e1, ?_⟩
  refine y_aload_n dL_law_875 rfl rfl ?_
  refine y_aload_n dL_law_876 rfl rfl ?_
  refine y_iload_n dL_law_877 rfl rfl ?_
  refine y_iconst (v := 1) dL_law_878 (by decide) ?_
  refine y_iaddN (a := p) (b := 1) dL_law_879 rfl rfl ?_
  refine y_saldN dL_law_880 rfl rfl (by omega) (by omega) ?_
  refine y_ivI1 dL_law_881 mv_L_93 my_X12_keep (Or.inl rfl) sh_239 ?_
  refine sRun_mono ?_ hk
  intro r2 m2 n2 z2
  obtain ⟨e2, h2⟩ := z2
  refine ⟨v, e2, ?_⟩
  refine y_icmp_eq (tgt := 1562) dL_law_884 (by decide) (fun h884 => ?_) (fun h884 => absurd rfl h884)
  exact tail m2 n2 h2
theorem lw_19 {L : Nat} {xs : Nat → Int32} {d p : Nat} {m : sM} {n : sN} {Q : sQ} (hL : L ≤ 3072) (hp : p + 6 ≤ L) (h : Rel m n) (tail : ∀ (m : sM) (n : sN), Rel m n → sV (scT L xs) (d + 11) "LoafFallLaw" cL_law 4 (some .boolean) Q 1562 [some (.ref (100000 + 6)), some (.ref 0), some (.ref 239), some (.int (nI p))] [] m n) : sV (scT L xs) (d + 11) "LoafFallLaw" cL_law 4 (some .boolean) Q 889 [some (.ref (100000 + 6)), some (.ref 0), some (.ref 239), some (.int (nI p))] [] m n := by
  refine y_aload_n dL_law_889 rfl rfl ?_
  refine y_aload_n dL_law_890 rfl rfl ?_
  refine y_iload_n dL_law_891 rfl rfl ?_
  refine y_iconst (v := 1) dL_law_892 (by decide) ?_
  refine y_iaddN (a := p) (b := 1) dL_law_893 rfl rfl ?_
  refine y_saldN dL_law_894 rfl rfl (by omega) (by omega) ?_
  refine y_ivI1 dL_law_895 mv_L_94 my_X11_on (Or.inl rfl) sh_0 ?_
  refine sRun_mono ?_ (p_on h)
  intro r1 m1 n1 z1
  obtain ⟨v, e1, hk⟩ := z1
  refine ⟨v, e1, ?_⟩
  refine y_aload_n dL_law_898 rfl rfl ?_
  refine y_aload_n dL_law_899 rfl rfl ?_
  refine y_iload_n dL_law_900 rfl rfl ?_
  refine y_iconst (v := 1) dL_law_901 (by decide) ?_
  refine y_iaddN (a := p) (b := 1) dL_law_902 rfl rfl ?_
  refine y_saldN dL_law_903 rfl rfl (by omega) (by omega) ?_
  refine y_ivI1 dL_law_904 mv_L_97 my_X12_on (Or.inl rfl) sh_239 ?_
  refine sRun_mono ?_ hk
  intro r2 m2 n2 z2
  obtain ⟨e2, h2⟩ := z2
  refine ⟨v, e2, ?_⟩
  refine y_icmp_eq (tgt := 1562) dL_law_907 (by decide) (fun h907 => ?_) (fun h907 => absurd rfl h907)
  exact tail m2 n2 h2
theorem lw_20 {L : Nat} {xs : Nat → Int32} {d p : Nat} {m : sM} {n : sN} {Q : sQ} (hL : L ≤ 3072) (hp : p + 6 ≤ L) (h : Rel m n) (tail : ∀ (m : sM) (n : sN), Rel m n → sV (scT L xs) (d + 11) "LoafFallLaw" cL_law 4 (some .boolean) Q 1562 [some (.ref (100000 + 6)), some (.ref 0), some (.ref 239), some (.int (nI p))] [] m n) : sV (scT L xs) (d + 11) "LoafFallLaw" cL_law 4 (some .boolean) Q 912 [some (.ref (100000 + 6)), some (.ref 0), some (.ref 239), some (.int (nI p))] [] m n := by
  refine y_aload_n dL_law_912 rfl rfl ?_
  refine y_ivI0 dL_law_913 mv_L_98 my_X11_height (Or.inl rfl) sh_0 ?_
  refine sRun_mono ?_ (p_height h)
  intro r1 m1 n1 z1
  obtain ⟨v, e1, hk⟩ := z1
  refine ⟨v, e1, ?_⟩
  refine y_aload_n dL_law_916 rfl rfl ?_
  refine y_ivI0 dL_law_917 mv_L_102 my_X12_height (Or.inl rfl) sh_239 ?_
  refine sRun_mono ?_ hk
  intro r2 m2 n2 z2
  obtain ⟨e2, h2⟩ := z2
  refine ⟨v, e2, ?_⟩
  refine y_icmp_eq (tgt := 1562) dL_law_920 (by decide) (fun h920 => ?_) (fun h920 => absurd rfl h920)
  exact tail m2 n2 h2
theorem lw_21 {L : Nat} {xs : Nat → Int32} {d p : Nat} {m : sM} {n : sN} {Q : sQ} (hL : L ≤ 3072) (hp : p + 6 ≤ L) (h : Rel m n) (tail : ∀ (m : sM) (n : sN), Rel m n → sV (scT L xs) (d + 11) "LoafFallLaw" cL_law 4 (some .boolean) Q 1562 [some (.ref (100000 + 6)), some (.ref 0), some (.ref 239), some (.int (nI p))] [] m n) : sV (scT L xs) (d + 11) "LoafFallLaw" cL_law 4 (some .boolean) Q 925 [some (.ref (100000 + 6)), some (.ref 0), some (.ref 239), some (.int (nI p))] [] m n := by
  refine y_aload_n dL_law_925 rfl rfl ?_
  refine y_ivI0 dL_law_926 mv_L_103 my_X11_holes (Or.inl rfl) sh_0 ?_
  refine sRun_mono ?_ (p_holes h)
  intro r1 m1 n1 z1
  obtain ⟨v, e1, hk⟩ := z1
  refine ⟨v, e1, ?_⟩
  refine y_aload_n dL_law_929 rfl rfl ?_
  refine y_ivI0 dL_law_930 mv_L_106 my_X12_holes (Or.inl rfl) sh_239 ?_
  refine sRun_mono ?_ hk
  intro r2 m2 n2 z2
  obtain ⟨e2, h2⟩ := z2
  refine ⟨v, e2, ?_⟩
  refine y_icmp_eq (tgt := 1562) dL_law_933 (by decide) (fun h933 => ?_) (fun h933 => absurd rfl h933)
  exact tail m2 n2 h2
theorem lw_22 {L : Nat} {xs : Nat → Int32} {d p : Nat} {m : sM} {n : sN} {Q : sQ} (hL : L ≤ 3072) (hp : p + 6 ≤ L) (h : Rel m n) (tail : ∀ (m : sM) (n : sN), Rel m n → sV (scT L xs) (d + 11) "LoafFallLaw" cL_law 4 (some .boolean) Q 1562 [some (.ref (100000 + 6)), some (.ref 0), some (.ref 239), some (.int (nI p))] [] m n) : sV (scT L xs) (d + 11) "LoafFallLaw" cL_law 4 (some .boolean) Q 938 [some (.ref (100000 + 6)), some (.ref 0), some (.ref 239), some (.int (nI p))] [] m n := by
  refine y_aload_n dL_law_938 rfl rfl ?_
  refine y_aload_n dL_law_939 rfl rfl ?_
  refine y_iload_n dL_law_940 rfl rfl ?_
  refine y_iconst (v := 1) dL_law_941 (by decide) ?_
  refine y_iaddN (a := p) (b := 1) dL_law_942 rfl rfl ?_
  refine y_saldN dL_law_943 rfl rfl (by omega) (by omega) ?_
  refine y_ivI1 dL_law_944 mv_L_107 my_X11_cut (Or.inl rfl) sh_0 ?_
  refine sRun_mono ?_ (p_cut h)
  intro r1 m1 n1 z1
  obtain ⟨v, e1, hk⟩ := z1
  refine ⟨v, e1, ?_⟩
  refine y_aload_n dL_law_947 rfl rfl ?_
  refine y_aload_n dL_law_948 rfl rfl ?_
  refine y_iload_n dL_law_949 rfl rfl ?_
  refine y_iconst (v := 1) dL_law_950 (by decide) ?_
  refine y_iaddN (a := p) (b := 1) dL_law_951 rfl rfl ?_
  refine y_saldN dL_law_952 rfl rfl (by omega) (by omega) ?_
  refine y_ivI1 dL_law_953 mv_L_110 my_X12_cut (Or.inl rfl) sh_239 ?_
  refine sRun_mono ?_ hk
  intro r2 m2 n2 z2
  obtain ⟨e2, h2⟩ := z2
  refine ⟨v, e2, ?_⟩
  refine y_icmp_eq (tgt := 1562) dL_law_956 (by decide) (fun h956 => ?_) (fun h956 => absurd rfl h956)
  exact tail m2 n2 h2
theorem lw_23 {L : Nat} {xs : Nat → Int32} {d p : Nat} {m : sM} {n : sN} {Q : sQ} (hL : L ≤ 3072) (hp : p + 6 ≤ L) (h : Rel m n) (tail : ∀ (m : sM) (n : sN), Rel m n → sV (scT L xs) (d + 11) "LoafFallLaw" cL_law 4 (some .boolean) Q 1562 [some (.ref (100000 + 6)), some (.ref 0), some (.ref 239), some (.int (nI p))] [] m n) : sV (scT L xs) (d + 11) "LoafFallLaw" cL_law 4 (some .boolean) Q 961 [some (.ref (100000 + 6)), some (.ref 0), some (.ref 239), some (.int (nI p))] [] m n := by
  refine y_aload_n dL_law_961 rfl rfl ?_
  refine y_aload_n dL_law_962 rfl rfl ?_
  refine y_iload_n dL_law_963 rfl rfl ?_
  refine y_iconst (v := 1) dL_law_964 (by decide) ?_
  refine y_iaddN (a := p) (b := 1) dL_law_965 rfl rfl ?_
  refine y_saldN dL_law_966 rfl rfl (by omega) (by omega) ?_
  refine y_ivI1 dL_law_967 mv_L_111 my_X11_rests (Or.inl rfl) sh_0 ?_
  refine sRun_mono ?_ (p_rests h)
  intro r1 m1 n1 z1
  obtain ⟨v, e1, hk⟩ := z1
  refine ⟨v, e1, ?_⟩
  refine y_aload_n dL_law_970 rfl rfl ?_
  refine y_aload_n dL_law_971 rfl rfl ?_
  refine y_iload_n dL_law_972 rfl rfl ?_
  refine y_iconst (v := 1) dL_law_973 (by decide) ?_
  refine y_iaddN (a := p) (b := 1) dL_law_974 rfl rfl ?_
  refine y_saldN dL_law_975 rfl rfl (by omega) (by omega) ?_
  refine y_ivI1 dL_law_976 mv_L_114 my_X12_rests (Or.inl rfl) sh_239 ?_
  refine sRun_mono ?_ hk
  intro r2 m2 n2 z2
  obtain ⟨e2, h2⟩ := z2
  refine ⟨v, e2, ?_⟩
  refine y_icmp_eq (tgt := 1562) dL_law_979 (by decide) (fun h979 => ?_) (fun h979 => absurd rfl h979)
  exact tail m2 n2 h2
theorem lw_24 {L : Nat} {xs : Nat → Int32} {d p : Nat} {m : sM} {n : sN} {Q : sQ} (hL : L ≤ 3072) (hp : p + 6 ≤ L) (h : Rel m n) (tail : ∀ (m : sM) (n : sN), Rel m n → sV (scT L xs) (d + 11) "LoafFallLaw" cL_law 4 (some .boolean) Q 1562 [some (.ref (100000 + 6)), some (.ref 0), some (.ref 239), some (.int (nI p))] [] m n) : sV (scT L xs) (d + 11) "LoafFallLaw" cL_law 4 (some .boolean) Q 984 [some (.ref (100000 + 6)), some (.ref 0), some (.ref 239), some (.int (nI p))] [] m n := by
  refine y_aload_n dL_law_984 rfl rfl ?_
  refine y_aload_n dL_law_985 rfl rfl ?_
  refine y_iload_n dL_law_986 rfl rfl ?_
  refine y_iconst (v := 1) dL_law_987 (by decide) ?_
  refine y_iaddN (a := p) (b := 1) dL_law_988 rfl rfl ?_
  refine y_saldN dL_law_989 rfl rfl (by omega) (by omega) ?_
  refine y_ivI1 dL_law_990 mv_L_115 my_X11_why (Or.inl rfl) sh_0 ?_
  refine sRun_mono ?_ (p_why h)
  intro r1 m1 n1 z1
  obtain ⟨v, e1, hk⟩ := z1
  refine ⟨v, e1, ?_⟩
  refine y_aload_n dL_law_993 rfl rfl ?_
  refine y_aload_n dL_law_994 rfl rfl ?_
  refine y_iload_n dL_law_995 rfl rfl ?_
  refine y_iconst (v := 1) dL_law_996 (by decide) ?_
  refine y_iaddN (a := p) (b := 1) dL_law_997 rfl rfl ?_
  refine y_saldN dL_law_998 rfl rfl (by omega) (by omega) ?_
  refine y_ivI1 dL_law_999 mv_L_118 my_X12_why (Or.inl rfl) sh_239 ?_
  refine sRun_mono ?_ hk
  intro r2 m2 n2 z2
  obtain ⟨e2, h2⟩ := z2
  refine ⟨v, e2, ?_⟩
  refine y_icmp_eq (tgt := 1562) dL_law_1002 (by decide) (fun h1002 => ?_) (fun h1002 => absurd rfl h1002)
  exact tail m2 n2 h2
theorem lw_25 {L : Nat} {xs : Nat → Int32} {d p : Nat} {m : sM} {n : sN} {Q : sQ} (hL : L ≤ 3072) (hp : p + 6 ≤ L) (h : Rel m n) (tail : ∀ (m : sM) (n : sN), Rel m n → sV (scT L xs) (d + 11) "LoafFallLaw" cL_law 4 (some .boolean) Q 1562 [some (.ref (100000 + 6)), some (.ref 0), some (.ref 239), some (.int (nI p))] [] m n) : sV (scT L xs) (d + 11) "LoafFallLaw" cL_law 4 (some .boolean) Q 1007 [some (.ref (100000 + 6)), some (.ref 0), some (.ref 239), some (.int (nI p))] [] m n := by
  refine y_aload_n dL_law_1007 rfl rfl ?_
  refine y_aload_n dL_law_1008 rfl rfl ?_
  refine y_iload_n dL_law_1009 rfl rfl ?_
  refine y_iconst (v := 1) dL_law_1010 (by decide) ?_
  refine y_iaddN (a := p) (b := 1) dL_law_1011 rfl rfl ?_
  refine y_saldN dL_law_1012 rfl rfl (by omega) (by omega) ?_
  refine y_aload_n dL_law_1013 rfl rfl ?_
  refine y_iload_n dL_law_1014 rfl rfl ?_
  refine y_iconst (v := 2) dL_law_1015 (by decide) ?_
  refine y_iaddN (a := p) (b := 2) dL_law_1016 rfl rfl ?_
  refine y_saldN dL_law_1017 rfl rfl (by omega) (by omega) ?_
  refine y_ivI2 dL_law_1018 mv_L_119 my_X11_odds (Or.inl rfl) sh_0 ?_
  refine sRun_mono ?_ (p_odds h)
  intro r1 m1 n1 z1
  obtain ⟨v, e1, hk⟩ := z1
  refine ⟨v, e1, ?_⟩
  refine y_aload_n dL_law_1021 rfl rfl ?_
  refine y_aload_n dL_law_1022 rfl rfl ?_
  refine y_iload_n dL_law_1023 rfl rfl ?_
  refine y_iconst (v := 1) dL_law_1024 (by decide) ?_
  refine y_iaddN (a := p) (b := 1) dL_law_1025 rfl rfl ?_
  refine y_saldN dL_law_1026 rfl rfl (by omega) (by omega) ?_
  refine y_aload_n dL_law_1027 rfl rfl ?_
  refine y_iload_n dL_law_1028 rfl rfl ?_
  refine y_iconst (v := 2) dL_law_1029 (by decide) ?_
  refine y_iaddN (a := p) (b := 2) dL_law_1030 rfl rfl ?_
  refine y_saldN dL_law_1031 rfl rfl (by omega) (by omega) ?_
  refine y_ivI2 dL_law_1032 mv_L_122 my_X12_odds (Or.inl rfl) sh_239 ?_
  refine sRun_mono ?_ hk
  intro r2 m2 n2 z2
  obtain ⟨e2, h2⟩ := z2
  refine ⟨v, e2, ?_⟩
  refine y_icmp_eq (tgt := 1562) dL_law_1035 (by decide) (fun h1035 => ?_) (fun h1035 => absurd rfl h1035)
  exact tail m2 n2 h2
theorem lw_26 {L : Nat} {xs : Nat → Int32} {d p : Nat} {m : sM} {n : sN} {Q : sQ} (hL : L ≤ 3072) (hp : p + 6 ≤ L) (h : Rel m n) (tail : ∀ (m : sM) (n : sN), Rel m n → sV (scT L xs) (d + 11) "LoafFallLaw" cL_law 4 (some .boolean) Q 1562 [some (.ref (100000 + 6)), some (.ref 0), some (.ref 239), some (.int (nI p))] [] m n) : sV (scT L xs) (d + 11) "LoafFallLaw" cL_law 4 (some .boolean) Q 1040 [some (.ref (100000 + 6)), some (.ref 0), some (.ref 239), some (.int (nI p))] [] m n := by
  refine y_aload_n dL_law_1040 rfl rfl ?_
  refine y_aload_n dL_law_1041 rfl rfl ?_
  refine y_iload_n dL_law_1042 rfl rfl ?_
  refine y_iconst (v := 1) dL_law_1043 (by decide) ?_
  refine y_iaddN (a := p) (b := 1) dL_law_1044 rfl rfl ?_
  refine y_saldN dL_law_1045 rfl rfl (by omega) (by omega) ?_
  refine y_aload_n dL_law_1046 rfl rfl ?_
  refine y_iload_n dL_law_1047 rfl rfl ?_
  refine y_iconst (v := 2) dL_law_1048 (by decide) ?_
  refine y_iaddN (a := p) (b := 2) dL_law_1049 rfl rfl ?_
  refine y_saldN dL_law_1050 rfl rfl (by omega) (by omega) ?_
  refine y_aload_n dL_law_1051 rfl rfl ?_
  refine y_iload_n dL_law_1052 rfl rfl ?_
  refine y_iconst (v := 3) dL_law_1053 (by decide) ?_
  refine y_iaddN (a := p) (b := 3) dL_law_1054 rfl rfl ?_
  refine y_saldN dL_law_1055 rfl rfl (by omega) (by omega) ?_
  refine y_ivI3 dL_law_1056 mv_L_123 my_X11_sprout (Or.inl rfl) sh_0 ?_
  refine sRun_mono ?_ (p_sprout h)
  intro r1 m1 n1 z1
  obtain ⟨v, e1, hk⟩ := z1
  refine ⟨v, e1, ?_⟩
  refine y_aload_n dL_law_1059 rfl rfl ?_
  refine y_aload_n dL_law_1060 rfl rfl ?_
  refine y_iload_n dL_law_1061 rfl rfl ?_
  refine y_iconst (v := 1) dL_law_1062 (by decide) ?_
  refine y_iaddN (a := p) (b := 1) dL_law_1063 rfl rfl ?_
  refine y_saldN dL_law_1064 rfl rfl (by omega) (by omega) ?_
  refine y_aload_n dL_law_1065 rfl rfl ?_
  refine y_iload_n dL_law_1066 rfl rfl ?_
  refine y_iconst (v := 2) dL_law_1067 (by decide) ?_
  refine y_iaddN (a := p) (b := 2) dL_law_1068 rfl rfl ?_
  refine y_saldN dL_law_1069 rfl rfl (by omega) (by omega) ?_
  refine y_aload_n dL_law_1070 rfl rfl ?_
  refine y_iload_n dL_law_1071 rfl rfl ?_
  refine y_iconst (v := 3) dL_law_1072 (by decide) ?_
  refine y_iaddN (a := p) (b := 3) dL_law_1073 rfl rfl ?_
  refine y_saldN dL_law_1074 rfl rfl (by omega) (by omega) ?_
  refine y_ivI3 dL_law_1075 mv_L_126 my_X12_sprout (Or.inl rfl) sh_239 ?_
  refine sRun_mono ?_ hk
  intro r2 m2 n2 z2
  obtain ⟨e2, h2⟩ := z2
  refine ⟨v, e2, ?_⟩
  refine y_icmp_eq (tgt := 1562) dL_law_1078 (by decide) (fun h1078 => ?_) (fun h1078 => absurd rfl h1078)
  exact tail m2 n2 h2
theorem lw_27 {L : Nat} {xs : Nat → Int32} {d p : Nat} {m : sM} {n : sN} {Q : sQ} (hL : L ≤ 3072) (hp : p + 6 ≤ L) (h : Rel m n) (tail : ∀ (m : sM) (n : sN), Rel m n → sV (scT L xs) (d + 11) "LoafFallLaw" cL_law 4 (some .boolean) Q 1562 [some (.ref (100000 + 6)), some (.ref 0), some (.ref 239), some (.int (nI p))] [] m n) : sV (scT L xs) (d + 11) "LoafFallLaw" cL_law 4 (some .boolean) Q 1083 [some (.ref (100000 + 6)), some (.ref 0), some (.ref 239), some (.int (nI p))] [] m n := by
  refine y_aload_n dL_law_1083 rfl rfl ?_
  refine y_aload_n dL_law_1084 rfl rfl ?_
  refine y_iload_n dL_law_1085 rfl rfl ?_
  refine y_iconst (v := 1) dL_law_1086 (by decide) ?_
  refine y_iaddN (a := p) (b := 1) dL_law_1087 rfl rfl ?_
  refine y_saldN dL_law_1088 rfl rfl (by omega) (by omega) ?_
  refine y_aload_n dL_law_1089 rfl rfl ?_
  refine y_iload_n dL_law_1090 rfl rfl ?_
  refine y_iconst (v := 2) dL_law_1091 (by decide) ?_
  refine y_iaddN (a := p) (b := 2) dL_law_1092 rfl rfl ?_
  refine y_saldN dL_law_1093 rfl rfl (by omega) (by omega) ?_
  refine y_aload_n dL_law_1094 rfl rfl ?_
  refine y_iload_n dL_law_1095 rfl rfl ?_
  refine y_iconst (v := 3) dL_law_1096 (by decide) ?_
  refine y_iaddN (a := p) (b := 3) dL_law_1097 rfl rfl ?_
  refine y_saldN dL_law_1098 rfl rfl (by omega) (by omega) ?_
  refine y_ivI3 dL_law_1099 mv_L_127 my_X11_rack (Or.inl rfl) sh_0 ?_
  refine sRun_mono ?_ (p_rack h)
  intro r1 m1 n1 z1
  obtain ⟨v, e1, hk⟩ := z1
  refine ⟨v, e1, ?_⟩
  refine y_aload_n dL_law_1102 rfl rfl ?_
  refine y_aload_n dL_law_1103 rfl rfl ?_
  refine y_iload_n dL_law_1104 rfl rfl ?_
  refine y_iconst (v := 1) dL_law_1105 (by decide) ?_
  refine y_iaddN (a := p) (b := 1) dL_law_1106 rfl rfl ?_
  refine y_saldN dL_law_1107 rfl rfl (by omega) (by omega) ?_
  refine y_aload_n dL_law_1108 rfl rfl ?_
  refine y_iload_n dL_law_1109 rfl rfl ?_
  refine y_iconst (v := 2) dL_law_1110 (by decide) ?_
  refine y_iaddN (a := p) (b := 2) dL_law_1111 rfl rfl ?_
  refine y_saldN dL_law_1112 rfl rfl (by omega) (by omega) ?_
  refine y_aload_n dL_law_1113 rfl rfl ?_
  refine y_iload_n dL_law_1114 rfl rfl ?_
  refine y_iconst (v := 3) dL_law_1115 (by decide) ?_
  refine y_iaddN (a := p) (b := 3) dL_law_1116 rfl rfl ?_
  refine y_saldN dL_law_1117 rfl rfl (by omega) (by omega) ?_
  refine y_ivI3 dL_law_1118 mv_L_130 my_X12_rack (Or.inl rfl) sh_239 ?_
  refine sRun_mono ?_ hk
  intro r2 m2 n2 z2
  obtain ⟨e2, h2⟩ := z2
  refine ⟨v, e2, ?_⟩
  refine y_icmp_eq (tgt := 1562) dL_law_1121 (by decide) (fun h1121 => ?_) (fun h1121 => absurd rfl h1121)
  exact tail m2 n2 h2
theorem lw_28 {L : Nat} {xs : Nat → Int32} {d p : Nat} {m : sM} {n : sN} {Q : sQ} (hL : L ≤ 3072) (hp : p + 6 ≤ L) (h : Rel m n) (tail : ∀ (m : sM) (n : sN), Rel m n → sV (scT L xs) (d + 11) "LoafFallLaw" cL_law 4 (some .boolean) Q 1562 [some (.ref (100000 + 6)), some (.ref 0), some (.ref 239), some (.int (nI p))] [] m n) : sV (scT L xs) (d + 11) "LoafFallLaw" cL_law 4 (some .boolean) Q 1126 [some (.ref (100000 + 6)), some (.ref 0), some (.ref 239), some (.int (nI p))] [] m n := by
  refine y_aload_n dL_law_1126 rfl rfl ?_
  refine y_ivI0 dL_law_1127 mv_L_131 my_X11_change (Or.inl rfl) sh_0 ?_
  refine sRun_mono ?_ (p_change h)
  intro r1 m1 n1 z1
  obtain ⟨v, e1, hk⟩ := z1
  refine ⟨v, e1, ?_⟩
  refine y_aload_n dL_law_1130 rfl rfl ?_
  refine y_ivI0 dL_law_1131 mv_L_134 my_X12_change (Or.inl rfl) sh_239 ?_
  refine sRun_mono ?_ hk
  intro r2 m2 n2 z2
  obtain ⟨e2, h2⟩ := z2
  refine ⟨v, e2, ?_⟩
  refine y_icmp_eq (tgt := 1562) dL_law_1134 (by decide) (fun h1134 => ?_) (fun h1134 => absurd rfl h1134)
  exact tail m2 n2 h2
theorem lw_29 {L : Nat} {xs : Nat → Int32} {d p : Nat} {m : sM} {n : sN} {Q : sQ} (hL : L ≤ 3072) (hp : p + 6 ≤ L) (h : Rel m n) (tail : ∀ (m : sM) (n : sN), Rel m n → sV (scT L xs) (d + 11) "LoafFallLaw" cL_law 4 (some .boolean) Q 1562 [some (.ref (100000 + 6)), some (.ref 0), some (.ref 239), some (.int (nI p))] [] m n) : sV (scT L xs) (d + 11) "LoafFallLaw" cL_law 4 (some .boolean) Q 1139 [some (.ref (100000 + 6)), some (.ref 0), some (.ref 239), some (.int (nI p))] [] m n := by
  refine y_aload_n dL_law_1139 rfl rfl ?_
  refine y_ivI0 dL_law_1140 mv_L_135 my_X11_changes (Or.inl rfl) sh_0 ?_
  refine sRun_mono ?_ (p_changes h)
  intro r1 m1 n1 z1
  obtain ⟨v, e1, hk⟩ := z1
  refine ⟨v, e1, ?_⟩
  refine y_aload_n dL_law_1143 rfl rfl ?_
  refine y_ivI0 dL_law_1144 mv_L_138 my_X12_changes (Or.inl rfl) sh_239 ?_
  refine sRun_mono ?_ hk
  intro r2 m2 n2 z2
  obtain ⟨e2, h2⟩ := z2
  refine ⟨v, e2, ?_⟩
  refine y_icmp_eq (tgt := 1562) dL_law_1147 (by decide) (fun h1147 => ?_) (fun h1147 => absurd rfl h1147)
  exact tail m2 n2 h2
theorem lw_30 {L : Nat} {xs : Nat → Int32} {d p : Nat} {m : sM} {n : sN} {Q : sQ} (hL : L ≤ 3072) (hp : p + 6 ≤ L) (h : Rel m n) (tail : ∀ (m : sM) (n : sN), Rel m n → sV (scT L xs) (d + 11) "LoafFallLaw" cL_law 4 (some .boolean) Q 1562 [some (.ref (100000 + 6)), some (.ref 0), some (.ref 239), some (.int (nI p))] [] m n) : sV (scT L xs) (d + 11) "LoafFallLaw" cL_law 4 (some .boolean) Q 1152 [some (.ref (100000 + 6)), some (.ref 0), some (.ref 239), some (.int (nI p))] [] m n := by
  refine y_aload_n dL_law_1152 rfl rfl ?_
  refine y_aload_n dL_law_1153 rfl rfl ?_
  refine y_iload_n dL_law_1154 rfl rfl ?_
  refine y_iconst (v := 1) dL_law_1155 (by decide) ?_
  refine y_iaddN (a := p) (b := 1) dL_law_1156 rfl rfl ?_
  refine y_saldN dL_law_1157 rfl rfl (by omega) (by omega) ?_
  refine y_ivI1 dL_law_1158 mv_L_139 my_X11_wide (Or.inl rfl) sh_0 ?_
  refine sRun_mono ?_ (p_wide h)
  intro r1 m1 n1 z1
  obtain ⟨v, e1, hk⟩ := z1
  refine ⟨v, e1, ?_⟩
  refine y_aload_n dL_law_1161 rfl rfl ?_
  refine y_aload_n dL_law_1162 rfl rfl ?_
  refine y_iload_n dL_law_1163 rfl rfl ?_
  refine y_iconst (v := 1) dL_law_1164 (by decide) ?_
  refine y_iaddN (a := p) (b := 1) dL_law_1165 rfl rfl ?_
  refine y_saldN dL_law_1166 rfl rfl (by omega) (by omega) ?_
  refine y_ivI1 dL_law_1167 mv_L_142 my_X12_wide (Or.inl rfl) sh_239 ?_
  refine sRun_mono ?_ hk
  intro r2 m2 n2 z2
  obtain ⟨e2, h2⟩ := z2
  refine ⟨v, e2, ?_⟩
  refine y_icmp_eq (tgt := 1562) dL_law_1170 (by decide) (fun h1170 => ?_) (fun h1170 => absurd rfl h1170)
  exact tail m2 n2 h2
theorem lw_31 {L : Nat} {xs : Nat → Int32} {d p : Nat} {m : sM} {n : sN} {Q : sQ} (hL : L ≤ 3072) (hp : p + 6 ≤ L) (h : Rel m n) (tail : ∀ (m : sM) (n : sN), Rel m n → sV (scT L xs) (d + 11) "LoafFallLaw" cL_law 4 (some .boolean) Q 1562 [some (.ref (100000 + 6)), some (.ref 0), some (.ref 239), some (.int (nI p))] [] m n) : sV (scT L xs) (d + 11) "LoafFallLaw" cL_law 4 (some .boolean) Q 1175 [some (.ref (100000 + 6)), some (.ref 0), some (.ref 239), some (.int (nI p))] [] m n := by
  refine y_aload_n dL_law_1175 rfl rfl ?_
  refine y_aload_n dL_law_1176 rfl rfl ?_
  refine y_iload_n dL_law_1177 rfl rfl ?_
  refine y_iconst (v := 1) dL_law_1178 (by decide) ?_
  refine y_iaddN (a := p) (b := 1) dL_law_1179 rfl rfl ?_
  refine y_saldN dL_law_1180 rfl rfl (by omega) (by omega) ?_
  refine y_ivI1 dL_law_1181 mv_L_143 my_X11_flours (Or.inl rfl) sh_0 ?_
  refine sRun_mono ?_ (p_flours h)
  intro r1 m1 n1 z1
  obtain ⟨v, e1, hk⟩ := z1
  refine ⟨v, e1, ?_⟩
  refine y_aload_n dL_law_1184 rfl rfl ?_
  refine y_aload_n dL_law_1185 rfl rfl ?_
  refine y_iload_n dL_law_1186 rfl rfl ?_
  refine y_iconst (v := 1) dL_law_1187 (by decide) ?_
  refine y_iaddN (a := p) (b := 1) dL_law_1188 rfl rfl ?_
  refine y_saldN dL_law_1189 rfl rfl (by omega) (by omega) ?_
  refine y_ivI1 dL_law_1190 mv_L_146 my_X12_flours (Or.inl rfl) sh_239 ?_
  refine sRun_mono ?_ hk
  intro r2 m2 n2 z2
  obtain ⟨e2, h2⟩ := z2
  refine ⟨v, e2, ?_⟩
  refine y_icmp_eq (tgt := 1562) dL_law_1193 (by decide) (fun h1193 => ?_) (fun h1193 => absurd rfl h1193)
  exact tail m2 n2 h2
theorem lw_32 {L : Nat} {xs : Nat → Int32} {d p : Nat} {m : sM} {n : sN} {Q : sQ} (hL : L ≤ 3072) (hp : p + 6 ≤ L) (h : Rel m n) (tail : ∀ (m : sM) (n : sN), Rel m n → sV (scT L xs) (d + 11) "LoafFallLaw" cL_law 4 (some .boolean) Q 1562 [some (.ref (100000 + 6)), some (.ref 0), some (.ref 239), some (.int (nI p))] [] m n) : sV (scT L xs) (d + 11) "LoafFallLaw" cL_law 4 (some .boolean) Q 1198 [some (.ref (100000 + 6)), some (.ref 0), some (.ref 239), some (.int (nI p))] [] m n := by
  refine y_aload_n dL_law_1198 rfl rfl ?_
  refine y_aload_n dL_law_1199 rfl rfl ?_
  refine y_iload_n dL_law_1200 rfl rfl ?_
  refine y_iconst (v := 1) dL_law_1201 (by decide) ?_
  refine y_iaddN (a := p) (b := 1) dL_law_1202 rfl rfl ?_
  refine y_saldN dL_law_1203 rfl rfl (by omega) (by omega) ?_
  refine y_ivI1 dL_law_1204 mv_L_147 my_X11_begin (Or.inl rfl) sh_0 ?_
  refine sRun_mono ?_ (p_begin h)
  intro r1 m1 n1 z1
  obtain ⟨v, e1, hk⟩ := z1
  refine ⟨v, e1, ?_⟩
  refine y_aload_n dL_law_1207 rfl rfl ?_
  refine y_aload_n dL_law_1208 rfl rfl ?_
  refine y_iload_n dL_law_1209 rfl rfl ?_
  refine y_iconst (v := 1) dL_law_1210 (by decide) ?_
  refine y_iaddN (a := p) (b := 1) dL_law_1211 rfl rfl ?_
  refine y_saldN dL_law_1212 rfl rfl (by omega) (by omega) ?_
  refine y_ivI1 dL_law_1213 mv_L_150 my_X12_begin (Or.inl rfl) sh_239 ?_
  refine sRun_mono ?_ hk
  intro r2 m2 n2 z2
  obtain ⟨e2, h2⟩ := z2
  refine ⟨v, e2, ?_⟩
  refine y_icmp_eq (tgt := 1562) dL_law_1216 (by decide) (fun h1216 => ?_) (fun h1216 => absurd rfl h1216)
  exact tail m2 n2 h2
theorem lw_33 {L : Nat} {xs : Nat → Int32} {d p : Nat} {m : sM} {n : sN} {Q : sQ} (hL : L ≤ 3072) (hp : p + 6 ≤ L) (h : Rel m n) (tail : ∀ (m : sM) (n : sN), Rel m n → sV (scT L xs) (d + 11) "LoafFallLaw" cL_law 4 (some .boolean) Q 1562 [some (.ref (100000 + 6)), some (.ref 0), some (.ref 239), some (.int (nI p))] [] m n) : sV (scT L xs) (d + 11) "LoafFallLaw" cL_law 4 (some .boolean) Q 1221 [some (.ref (100000 + 6)), some (.ref 0), some (.ref 239), some (.int (nI p))] [] m n := by
  refine y_aload_n dL_law_1221 rfl rfl ?_
  refine y_aload_n dL_law_1222 rfl rfl ?_
  refine y_iload_n dL_law_1223 rfl rfl ?_
  refine y_iconst (v := 1) dL_law_1224 (by decide) ?_
  refine y_iaddN (a := p) (b := 1) dL_law_1225 rfl rfl ?_
  refine y_saldN dL_law_1226 rfl rfl (by omega) (by omega) ?_
  refine y_ivI1 dL_law_1227 mv_L_151 my_X11_oven (Or.inl rfl) sh_0 ?_
  refine sRun_mono ?_ (p_oven h)
  intro r1 m1 n1 z1
  obtain ⟨v, e1, hk⟩ := z1
  refine ⟨v, e1, ?_⟩
  refine y_aload_n dL_law_1230 rfl rfl ?_
  refine y_aload_n dL_law_1231 rfl rfl ?_
  refine y_iload_n dL_law_1232 rfl rfl ?_
  refine y_iconst (v := 1) dL_law_1233 (by decide) ?_
  refine y_iaddN (a := p) (b := 1) dL_law_1234 rfl rfl ?_
  refine y_saldN dL_law_1235 rfl rfl (by omega) (by omega) ?_
  refine y_ivI1 dL_law_1236 mv_L_154 my_X12_oven (Or.inl rfl) sh_239 ?_
  refine sRun_mono ?_ hk
  intro r2 m2 n2 z2
  obtain ⟨e2, h2⟩ := z2
  refine ⟨v, e2, ?_⟩
  refine y_icmp_eq (tgt := 1562) dL_law_1239 (by decide) (fun h1239 => ?_) (fun h1239 => absurd rfl h1239)
  exact tail m2 n2 h2
theorem lw_34 {L : Nat} {xs : Nat → Int32} {d p : Nat} {m : sM} {n : sN} {Q : sQ} (hL : L ≤ 3072) (hp : p + 6 ≤ L) (h : Rel m n) (tail : ∀ (m : sM) (n : sN), Rel m n → sV (scT L xs) (d + 11) "LoafFallLaw" cL_law 4 (some .boolean) Q 1562 [some (.ref (100000 + 6)), some (.ref 0), some (.ref 239), some (.int (nI p))] [] m n) : sV (scT L xs) (d + 11) "LoafFallLaw" cL_law 4 (some .boolean) Q 1244 [some (.ref (100000 + 6)), some (.ref 0), some (.ref 239), some (.int (nI p))] [] m n := by
  refine y_aload_n dL_law_1244 rfl rfl ?_
  refine y_ivI0 dL_law_1245 mv_L_155 my_X11_even (Or.inl rfl) sh_0 ?_
  refine sRun_mono ?_ (p_even h)
  intro r1 m1 n1 z1
  obtain ⟨v, e1, hk⟩ := z1
  refine ⟨v, e1, ?_⟩
  refine y_aload_n dL_law_1248 rfl rfl ?_
  refine y_ivI0 dL_law_1249 mv_L_158 my_X12_even (Or.inl rfl) sh_239 ?_
  refine sRun_mono ?_ hk
  intro r2 m2 n2 z2
  obtain ⟨e2, h2⟩ := z2
  refine ⟨v, e2, ?_⟩
  refine y_icmp_eq (tgt := 1562) dL_law_1252 (by decide) (fun h1252 => ?_) (fun h1252 => absurd rfl h1252)
  exact tail m2 n2 h2
theorem lw_35 {L : Nat} {xs : Nat → Int32} {d p : Nat} {m : sM} {n : sN} {Q : sQ} (hL : L ≤ 3072) (hp : p + 6 ≤ L) (h : Rel m n) (tail : ∀ (m : sM) (n : sN), Rel m n → sV (scT L xs) (d + 11) "LoafFallLaw" cL_law 4 (some .boolean) Q 1562 [some (.ref (100000 + 6)), some (.ref 0), some (.ref 239), some (.int (nI p))] [] m n) : sV (scT L xs) (d + 11) "LoafFallLaw" cL_law 4 (some .boolean) Q 1257 [some (.ref (100000 + 6)), some (.ref 0), some (.ref 239), some (.int (nI p))] [] m n := by
  refine y_aload_n dL_law_1257 rfl rfl ?_
  refine y_aload_n dL_law_1258 rfl rfl ?_
  refine y_iload_n dL_law_1259 rfl rfl ?_
  refine y_iconst (v := 1) dL_law_1260 (by decide) ?_
  refine y_iaddN (a := p) (b := 1) dL_law_1261 rfl rfl ?_
  refine y_saldN dL_law_1262 rfl rfl (by omega) (by omega) ?_
  refine y_aload_n dL_law_1263 rfl rfl ?_
  refine y_iload_n dL_law_1264 rfl rfl ?_
  refine y_iconst (v := 2) dL_law_1265 (by decide) ?_
  refine y_iaddN (a := p) (b := 2) dL_law_1266 rfl rfl ?_
  refine y_saldN dL_law_1267 rfl rfl (by omega) (by omega) ?_
  refine y_ivI2 dL_law_1268 mv_L_159 my_X11_slip (Or.inl rfl) sh_0 ?_
  refine sRun_mono ?_ (p_slip h)
  intro r1 m1 n1 z1
  obtain ⟨v, e1, hk⟩ := z1
  refine ⟨v, e1, ?_⟩
  refine y_aload_n dL_law_1271 rfl rfl ?_
  refine y_aload_n dL_law_1272 rfl rfl ?_
  refine y_iload_n dL_law_1273 rfl rfl ?_
  refine y_iconst (v := 1) dL_law_1274 (by decide) ?_
  refine y_iaddN (a := p) (b := 1) dL_law_1275 rfl rfl ?_
  refine y_saldN dL_law_1276 rfl rfl (by omega) (by omega) ?_
  refine y_aload_n dL_law_1277 rfl rfl ?_
  refine y_iload_n dL_law_1278 rfl rfl ?_
  refine y_iconst (v := 2) dL_law_1279 (by decide) ?_
  refine y_iaddN (a := p) (b := 2) dL_law_1280 rfl rfl ?_
  refine y_saldN dL_law_1281 rfl rfl (by omega) (by omega) ?_
  refine y_ivI2 dL_law_1282 mv_L_162 my_X12_slip (Or.inl rfl) sh_239 ?_
  refine sRun_mono ?_ hk
  intro r2 m2 n2 z2
  obtain ⟨e2, h2⟩ := z2
  refine ⟨v, e2, ?_⟩
  refine y_icmp_eq (tgt := 1562) dL_law_1285 (by decide) (fun h1285 => ?_) (fun h1285 => absurd rfl h1285)
  exact tail m2 n2 h2
theorem lw_36 {L : Nat} {xs : Nat → Int32} {d p : Nat} {m : sM} {n : sN} {Q : sQ} (hL : L ≤ 3072) (hp : p + 6 ≤ L) (h : Rel m n) (tail : ∀ (m : sM) (n : sN), Rel m n → sV (scT L xs) (d + 11) "LoafFallLaw" cL_law 4 (some .boolean) Q 1562 [some (.ref (100000 + 6)), some (.ref 0), some (.ref 239), some (.int (nI p))] [] m n) : sV (scT L xs) (d + 11) "LoafFallLaw" cL_law 4 (some .boolean) Q 1290 [some (.ref (100000 + 6)), some (.ref 0), some (.ref 239), some (.int (nI p))] [] m n := by
  refine y_aload_n dL_law_1290 rfl rfl ?_
  refine y_aload_n dL_law_1291 rfl rfl ?_
  refine y_iload_n dL_law_1292 rfl rfl ?_
  refine y_iconst (v := 1) dL_law_1293 (by decide) ?_
  refine y_iaddN (a := p) (b := 1) dL_law_1294 rfl rfl ?_
  refine y_saldN dL_law_1295 rfl rfl (by omega) (by omega) ?_
  refine y_aload_n dL_law_1296 rfl rfl ?_
  refine y_iload_n dL_law_1297 rfl rfl ?_
  refine y_iconst (v := 2) dL_law_1298 (by decide) ?_
  refine y_iaddN (a := p) (b := 2) dL_law_1299 rfl rfl ?_
  refine y_saldN dL_law_1300 rfl rfl (by omega) (by omega) ?_
  refine y_ivI2 dL_law_1301 mv_L_163 my_X11_told (Or.inl rfl) sh_0 ?_
  refine sRun_mono ?_ (p_told h)
  intro r1 m1 n1 z1
  obtain ⟨v, e1, hk⟩ := z1
  refine ⟨v, e1, ?_⟩
  refine y_aload_n dL_law_1304 rfl rfl ?_
  refine y_aload_n dL_law_1305 rfl rfl ?_
  refine y_iload_n dL_law_1306 rfl rfl ?_
  refine y_iconst (v := 1) dL_law_1307 (by decide) ?_
  refine y_iaddN (a := p) (b := 1) dL_law_1308 rfl rfl ?_
  refine y_saldN dL_law_1309 rfl rfl (by omega) (by omega) ?_
  refine y_aload_n dL_law_1310 rfl rfl ?_
  refine y_iload_n dL_law_1311 rfl rfl ?_
  refine y_iconst (v := 2) dL_law_1312 (by decide) ?_
  refine y_iaddN (a := p) (b := 2) dL_law_1313 rfl rfl ?_
  refine y_saldN dL_law_1314 rfl rfl (by omega) (by omega) ?_
  refine y_ivI2 dL_law_1315 mv_L_166 my_X12_told (Or.inl rfl) sh_239 ?_
  refine sRun_mono ?_ hk
  intro r2 m2 n2 z2
  obtain ⟨e2, h2⟩ := z2
  refine ⟨v, e2, ?_⟩
  refine y_icmp_eq (tgt := 1562) dL_law_1318 (by decide) (fun h1318 => ?_) (fun h1318 => absurd rfl h1318)
  exact tail m2 n2 h2
theorem lw_37 {L : Nat} {xs : Nat → Int32} {d p : Nat} {m : sM} {n : sN} {Q : sQ} (hL : L ≤ 3072) (hp : p + 6 ≤ L) (h : Rel m n) (tail : ∀ (m : sM) (n : sN), Rel m n → sV (scT L xs) (d + 11) "LoafFallLaw" cL_law 4 (some .boolean) Q 1562 [some (.ref (100000 + 6)), some (.ref 0), some (.ref 239), some (.int (nI p))] [] m n) : sV (scT L xs) (d + 11) "LoafFallLaw" cL_law 4 (some .boolean) Q 1323 [some (.ref (100000 + 6)), some (.ref 0), some (.ref 239), some (.int (nI p))] [] m n := by
  refine y_aload_n dL_law_1323 rfl rfl ?_
  refine y_aload_n dL_law_1324 rfl rfl ?_
  refine y_iload_n dL_law_1325 rfl rfl ?_
  refine y_iconst (v := 1) dL_law_1326 (by decide) ?_
  refine y_iaddN (a := p) (b := 1) dL_law_1327 rfl rfl ?_
  refine y_saldN dL_law_1328 rfl rfl (by omega) (by omega) ?_
  refine y_ivI1 dL_law_1329 mv_L_167 my_X11_law (Or.inl rfl) sh_0 ?_
  refine sRun_mono ?_ (p_law h)
  intro r1 m1 n1 z1
  obtain ⟨v, e1, hk⟩ := z1
  refine ⟨v, e1, ?_⟩
  refine y_aload_n dL_law_1332 rfl rfl ?_
  refine y_aload_n dL_law_1333 rfl rfl ?_
  refine y_iload_n dL_law_1334 rfl rfl ?_
  refine y_iconst (v := 1) dL_law_1335 (by decide) ?_
  refine y_iaddN (a := p) (b := 1) dL_law_1336 rfl rfl ?_
  refine y_saldN dL_law_1337 rfl rfl (by omega) (by omega) ?_
  refine y_ivI1 dL_law_1338 mv_L_170 my_X12_law (Or.inl rfl) sh_239 ?_
  refine sRun_mono ?_ hk
  intro r2 m2 n2 z2
  obtain ⟨e2, h2⟩ := z2
  refine ⟨v, e2, ?_⟩
  refine y_icmp_eq (tgt := 1562) dL_law_1341 (by decide) (fun h1341 => ?_) (fun h1341 => absurd rfl h1341)
  exact tail m2 n2 h2
theorem lw_38 {L : Nat} {xs : Nat → Int32} {d p : Nat} {m : sM} {n : sN} {Q : sQ} (hL : L ≤ 3072) (hp : p + 6 ≤ L) (h : Rel m n) (tail : ∀ (m : sM) (n : sN), Rel m n → sV (scT L xs) (d + 11) "LoafFallLaw" cL_law 4 (some .boolean) Q 1562 [some (.ref (100000 + 6)), some (.ref 0), some (.ref 239), some (.int (nI p))] [] m n) : sV (scT L xs) (d + 11) "LoafFallLaw" cL_law 4 (some .boolean) Q 1346 [some (.ref (100000 + 6)), some (.ref 0), some (.ref 239), some (.int (nI p))] [] m n := by
  by_cases hb : xs (p + 4) = 0
  · refine y_aload_n dL_law_1346 rfl rfl ?_
    refine y_aload_n dL_law_1347 rfl rfl ?_
    refine y_iload_n dL_law_1348 rfl rfl ?_
    refine y_iconst (v := 1) dL_law_1349 (by decide) ?_
    refine y_iaddN (a := p) (b := 1) dL_law_1350 rfl rfl ?_
    refine y_saldN dL_law_1351 rfl rfl (by omega) (by omega) ?_
    refine y_aload_n dL_law_1352 rfl rfl ?_
    refine y_iload_n dL_law_1353 rfl rfl ?_
    refine y_iconst (v := 2) dL_law_1354 (by decide) ?_
    refine y_iaddN (a := p) (b := 2) dL_law_1355 rfl rfl ?_
    refine y_saldN dL_law_1356 rfl rfl (by omega) (by omega) ?_
    refine y_aload_n dL_law_1357 rfl rfl ?_
    refine y_iload_n dL_law_1358 rfl rfl ?_
    refine y_iconst (v := 3) dL_law_1359 (by decide) ?_
    refine y_iaddN (a := p) (b := 3) dL_law_1360 rfl rfl ?_
    refine y_saldN dL_law_1361 rfl rfl (by omega) (by omega) ?_
    refine y_aload_n dL_law_1362 rfl rfl ?_
    refine y_iload_n dL_law_1363 rfl rfl ?_
    refine y_iconst (v := 4) dL_law_1364 (by decide) ?_
    refine y_iaddN (a := p) (b := 4) dL_law_1365 rfl rfl ?_
    refine y_saldN dL_law_1366 rfl rfl (by omega) (by omega) ?_
    refine y_if_eq (tgt := 1374) dL_law_1367 (by decide) (fun h1367 => ?_) (fun h1367 => absurd hb h1367)
    refine y_iconst (v := 0) dL_law_1374 (by decide) ?_
    refine y_ivI4 dL_law_1375 mv_L_171 my_X11_spans (Or.inl rfl) sh_0 ?_
    refine sRun_mono ?_ (p_spans h)
    intro r1 m1 n1 z1
    obtain ⟨v, e1, hk⟩ := z1
    refine ⟨v, e1, ?_⟩
    refine y_aload_n dL_law_1378 rfl rfl ?_
    refine y_aload_n dL_law_1379 rfl rfl ?_
    refine y_iload_n dL_law_1380 rfl rfl ?_
    refine y_iconst (v := 1) dL_law_1381 (by decide) ?_
    refine y_iaddN (a := p) (b := 1) dL_law_1382 rfl rfl ?_
    refine y_saldN dL_law_1383 rfl rfl (by omega) (by omega) ?_
    refine y_aload_n dL_law_1384 rfl rfl ?_
    refine y_iload_n dL_law_1385 rfl rfl ?_
    refine y_iconst (v := 2) dL_law_1386 (by decide) ?_
    refine y_iaddN (a := p) (b := 2) dL_law_1387 rfl rfl ?_
    refine y_saldN dL_law_1388 rfl rfl (by omega) (by omega) ?_
    refine y_aload_n dL_law_1389 rfl rfl ?_
    refine y_iload_n dL_law_1390 rfl rfl ?_
    refine y_iconst (v := 3) dL_law_1391 (by decide) ?_
    refine y_iaddN (a := p) (b := 3) dL_law_1392 rfl rfl ?_
    refine y_saldN dL_law_1393 rfl rfl (by omega) (by omega) ?_
    refine y_aload_n dL_law_1394 rfl rfl ?_
    refine y_iload_n dL_law_1395 rfl rfl ?_
    refine y_iconst (v := 4) dL_law_1396 (by decide) ?_
    refine y_iaddN (a := p) (b := 4) dL_law_1397 rfl rfl ?_
    refine y_saldN dL_law_1398 rfl rfl (by omega) (by omega) ?_
    refine y_if_eq (tgt := 1406) dL_law_1399 (by decide) (fun h1399 => ?_) (fun h1399 => absurd hb h1399)
    refine y_iconst (v := 0) dL_law_1406 (by decide) ?_
    refine y_ivI4 dL_law_1407 mv_L_175 my_X12_spans (Or.inl rfl) sh_239 ?_
    refine sRun_mono ?_ hk
    intro r2 m2 n2 z2
    obtain ⟨e2, h2⟩ := z2
    refine ⟨v, e2, ?_⟩
    refine y_icmp_eq (tgt := 1562) dL_law_1410 (by decide) (fun h1410 => ?_) (fun h1410 => absurd rfl h1410)
    exact tail m2 n2 h2
  · refine y_aload_n dL_law_1346 rfl rfl ?_
    refine y_aload_n dL_law_1347 rfl rfl ?_
    refine y_iload_n dL_law_1348 rfl rfl ?_
    refine y_iconst (v := 1) dL_law_1349 (by decide) ?_
    refine y_iaddN (a := p) (b := 1) dL_law_1350 rfl rfl ?_
    refine y_saldN dL_law_1351 rfl rfl (by omega) (by omega) ?_
    refine y_aload_n dL_law_1352 rfl rfl ?_
    refine y_iload_n dL_law_1353 rfl rfl ?_
    refine y_iconst (v := 2) dL_law_1354 (by decide) ?_
    refine y_iaddN (a := p) (b := 2) dL_law_1355 rfl rfl ?_
    refine y_saldN dL_law_1356 rfl rfl (by omega) (by omega) ?_
    refine y_aload_n dL_law_1357 rfl rfl ?_
    refine y_iload_n dL_law_1358 rfl rfl ?_
    refine y_iconst (v := 3) dL_law_1359 (by decide) ?_
    refine y_iaddN (a := p) (b := 3) dL_law_1360 rfl rfl ?_
    refine y_saldN dL_law_1361 rfl rfl (by omega) (by omega) ?_
    refine y_aload_n dL_law_1362 rfl rfl ?_
    refine y_iload_n dL_law_1363 rfl rfl ?_
    refine y_iconst (v := 4) dL_law_1364 (by decide) ?_
    refine y_iaddN (a := p) (b := 4) dL_law_1365 rfl rfl ?_
    refine y_saldN dL_law_1366 rfl rfl (by omega) (by omega) ?_
    refine y_if_eq (tgt := 1374) dL_law_1367 (by decide) (fun h1367 => absurd h1367 hb) (fun h1367 => ?_)
    refine y_iconst (v := 1) dL_law_1370 (by decide) ?_
    refine y_goto (tgt := 1375) dL_law_1371 (by decide) ?_
    refine y_ivI4 dL_law_1375 mv_L_171 my_X11_spans (Or.inl rfl) sh_0 ?_
    refine sRun_mono ?_ (p_spans h)
    intro r1 m1 n1 z1
    obtain ⟨v, e1, hk⟩ := z1
    refine ⟨v, e1, ?_⟩
    refine y_aload_n dL_law_1378 rfl rfl ?_
    refine y_aload_n dL_law_1379 rfl rfl ?_
    refine y_iload_n dL_law_1380 rfl rfl ?_
    refine y_iconst (v := 1) dL_law_1381 (by decide) ?_
    refine y_iaddN (a := p) (b := 1) dL_law_1382 rfl rfl ?_
    refine y_saldN dL_law_1383 rfl rfl (by omega) (by omega) ?_
    refine y_aload_n dL_law_1384 rfl rfl ?_
    refine y_iload_n dL_law_1385 rfl rfl ?_
    refine y_iconst (v := 2) dL_law_1386 (by decide) ?_
    refine y_iaddN (a := p) (b := 2) dL_law_1387 rfl rfl ?_
    refine y_saldN dL_law_1388 rfl rfl (by omega) (by omega) ?_
    refine y_aload_n dL_law_1389 rfl rfl ?_
    refine y_iload_n dL_law_1390 rfl rfl ?_
    refine y_iconst (v := 3) dL_law_1391 (by decide) ?_
    refine y_iaddN (a := p) (b := 3) dL_law_1392 rfl rfl ?_
    refine y_saldN dL_law_1393 rfl rfl (by omega) (by omega) ?_
    refine y_aload_n dL_law_1394 rfl rfl ?_
    refine y_iload_n dL_law_1395 rfl rfl ?_
    refine y_iconst (v := 4) dL_law_1396 (by decide) ?_
    refine y_iaddN (a := p) (b := 4) dL_law_1397 rfl rfl ?_
    refine y_saldN dL_law_1398 rfl rfl (by omega) (by omega) ?_
    refine y_if_eq (tgt := 1406) dL_law_1399 (by decide) (fun h1399 => absurd h1399 hb) (fun h1399 => ?_)
    refine y_iconst (v := 1) dL_law_1402 (by decide) ?_
    refine y_goto (tgt := 1407) dL_law_1403 (by decide) ?_
    refine y_ivI4 dL_law_1407 mv_L_175 my_X12_spans (Or.inl rfl) sh_239 ?_
    refine sRun_mono ?_ hk
    intro r2 m2 n2 z2
    obtain ⟨e2, h2⟩ := z2
    refine ⟨v, e2, ?_⟩
    refine y_icmp_eq (tgt := 1562) dL_law_1410 (by decide) (fun h1410 => ?_) (fun h1410 => absurd rfl h1410)
    exact tail m2 n2 h2
theorem lw_39 {L : Nat} {xs : Nat → Int32} {d p : Nat} {m : sM} {n : sN} {Q : sQ} (hL : L ≤ 3072) (hp : p + 6 ≤ L) (h : Rel m n) (tail : ∀ (m : sM) (n : sN), Rel m n → sV (scT L xs) (d + 11) "LoafFallLaw" cL_law 4 (some .boolean) Q 1562 [some (.ref (100000 + 6)), some (.ref 0), some (.ref 239), some (.int (nI p))] [] m n) : sV (scT L xs) (d + 11) "LoafFallLaw" cL_law 4 (some .boolean) Q 1415 [some (.ref (100000 + 6)), some (.ref 0), some (.ref 239), some (.int (nI p))] [] m n := by
  refine y_aload_n dL_law_1415 rfl rfl ?_
  refine y_aload_n dL_law_1416 rfl rfl ?_
  refine y_iload_n dL_law_1417 rfl rfl ?_
  refine y_iconst (v := 1) dL_law_1418 (by decide) ?_
  refine y_iaddN (a := p) (b := 1) dL_law_1419 rfl rfl ?_
  refine y_saldN dL_law_1420 rfl rfl (by omega) (by omega) ?_
  refine y_aload_n dL_law_1421 rfl rfl ?_
  refine y_iload_n dL_law_1422 rfl rfl ?_
  refine y_iconst (v := 2) dL_law_1423 (by decide) ?_
  refine y_iaddN (a := p) (b := 2) dL_law_1424 rfl rfl ?_
  refine y_saldN dL_law_1425 rfl rfl (by omega) (by omega) ?_
  refine y_ivI2 dL_law_1426 mv_L_176 my_X11_foretell (Or.inl rfl) sh_0 ?_
  refine sRun_mono ?_ (p_foretell h)
  intro r1 m1 n1 z1
  obtain ⟨v, e1, hk⟩ := z1
  refine ⟨v, e1, ?_⟩
  refine y_aload_n dL_law_1429 rfl rfl ?_
  refine y_aload_n dL_law_1430 rfl rfl ?_
  refine y_iload_n dL_law_1431 rfl rfl ?_
  refine y_iconst (v := 1) dL_law_1432 (by decide) ?_
  refine y_iaddN (a := p) (b := 1) dL_law_1433 rfl rfl ?_
  refine y_saldN dL_law_1434 rfl rfl (by omega) (by omega) ?_
  refine y_aload_n dL_law_1435 rfl rfl ?_
  refine y_iload_n dL_law_1436 rfl rfl ?_
  refine y_iconst (v := 2) dL_law_1437 (by decide) ?_
  refine y_iaddN (a := p) (b := 2) dL_law_1438 rfl rfl ?_
  refine y_saldN dL_law_1439 rfl rfl (by omega) (by omega) ?_
  refine y_ivI2 dL_law_1440 mv_L_179 my_X12_foretell (Or.inl rfl) sh_239 ?_
  refine sRun_mono ?_ hk
  intro r2 m2 n2 z2
  obtain ⟨e2, h2⟩ := z2
  refine ⟨v, e2, ?_⟩
  refine y_icmp_eq (tgt := 1562) dL_law_1443 (by decide) (fun h1443 => ?_) (fun h1443 => absurd rfl h1443)
  exact tail m2 n2 h2
theorem lw_40 {L : Nat} {xs : Nat → Int32} {d p : Nat} {m : sM} {n : sN} {Q : sQ} (hL : L ≤ 3072) (hp : p + 6 ≤ L) (h : Rel m n) (tail : ∀ (m : sM) (n : sN), Rel m n → sV (scT L xs) (d + 11) "LoafFallLaw" cL_law 4 (some .boolean) Q 1562 [some (.ref (100000 + 6)), some (.ref 0), some (.ref 239), some (.int (nI p))] [] m n) : sV (scT L xs) (d + 11) "LoafFallLaw" cL_law 4 (some .boolean) Q 1448 [some (.ref (100000 + 6)), some (.ref 0), some (.ref 239), some (.int (nI p))] [] m n := by
  refine y_aload_n dL_law_1448 rfl rfl ?_
  refine y_ivI0 dL_law_1449 mv_L_180 my_X11_asked (Or.inl rfl) sh_0 ?_
  refine sRun_mono ?_ (p_asked h)
  intro r1 m1 n1 z1
  obtain ⟨v, e1, hk⟩ := z1
  refine ⟨v, e1, ?_⟩
  refine y_aload_n dL_law_1452 rfl rfl ?_
  refine y_ivI0 dL_law_1453 mv_L_183 my_X12_asked (Or.inl rfl) sh_239 ?_
  refine sRun_mono ?_ hk
  intro r2 m2 n2 z2
  obtain ⟨e2, h2⟩ := z2
  refine ⟨v, e2, ?_⟩
  refine y_icmp_eq (tgt := 1562) dL_law_1456 (by decide) (fun h1456 => ?_) (fun h1456 => absurd rfl h1456)
  exact tail m2 n2 h2
theorem lw_41 {L : Nat} {xs : Nat → Int32} {d p : Nat} {m : sM} {n : sN} {Q : sQ} (hL : L ≤ 3072) (hp : p + 6 ≤ L) (h : Rel m n) (tail : ∀ (m : sM) (n : sN), Rel m n → sV (scT L xs) (d + 11) "LoafFallLaw" cL_law 4 (some .boolean) Q 1562 [some (.ref (100000 + 6)), some (.ref 0), some (.ref 239), some (.int (nI p))] [] m n) : sV (scT L xs) (d + 11) "LoafFallLaw" cL_law 4 (some .boolean) Q 1461 [some (.ref (100000 + 6)), some (.ref 0), some (.ref 239), some (.int (nI p))] [] m n := by
  refine y_aload_n dL_law_1461 rfl rfl ?_
  refine y_ivL0 dL_law_1462 mv_L_184 my_X11_upper (Or.inl rfl) sh_0 ?_
  refine sRun_mono ?_ (p_upper h)
  intro r1 m1 n1 z1
  obtain ⟨v, e1, hk⟩ := z1
  refine ⟨v, e1, ?_⟩
  refine y_aload_n dL_law_1465 rfl rfl ?_
  refine y_ivL0 dL_law_1466 mv_L_188 my_X12_upper (Or.inl rfl) sh_239 ?_
  refine sRun_mono ?_ hk
  intro r2 m2 n2 z2
  obtain ⟨e2, h2⟩ := z2
  refine ⟨v, e2, ?_⟩
  refine y_lcmp dL_law_1469 ?_
  rw [lcmp_s]
  refine y_if_eq (tgt := 1562) dL_law_1470 (by decide) (fun h1470 => ?_) (fun h1470 => absurd rfl h1470)
  exact tail m2 n2 h2
theorem lw_42 {L : Nat} {xs : Nat → Int32} {d p : Nat} {m : sM} {n : sN} {Q : sQ} (hL : L ≤ 3072) (hp : p + 6 ≤ L) (h : Rel m n) (tail : ∀ (m : sM) (n : sN), Rel m n → sV (scT L xs) (d + 11) "LoafFallLaw" cL_law 4 (some .boolean) Q 1562 [some (.ref (100000 + 6)), some (.ref 0), some (.ref 239), some (.int (nI p))] [] m n) : sV (scT L xs) (d + 11) "LoafFallLaw" cL_law 4 (some .boolean) Q 1475 [some (.ref (100000 + 6)), some (.ref 0), some (.ref 239), some (.int (nI p))] [] m n := by
  refine y_aload_n dL_law_1475 rfl rfl ?_
  refine y_ivL0 dL_law_1476 mv_L_189 my_X11_lower (Or.inl rfl) sh_0 ?_
  refine sRun_mono ?_ (p_lower h)
  intro r1 m1 n1 z1
  obtain ⟨v, e1, hk⟩ := z1
  refine ⟨v, e1, ?_⟩
  refine y_aload_n dL_law_1479 rfl rfl ?_
  refine y_ivL0 dL_law_1480 mv_L_192 my_X12_lower (Or.inl rfl) sh_239 ?_
  refine sRun_mono ?_ hk
  intro r2 m2 n2 z2
  obtain ⟨e2, h2⟩ := z2
  refine ⟨v, e2, ?_⟩
  refine y_lcmp dL_law_1483 ?_
  rw [lcmp_s]
  refine y_if_eq (tgt := 1562) dL_law_1484 (by decide) (fun h1484 => ?_) (fun h1484 => absurd rfl h1484)
  exact tail m2 n2 h2
theorem lw_43 {L : Nat} {xs : Nat → Int32} {d p : Nat} {m : sM} {n : sN} {Q : sQ} (hL : L ≤ 3072) (hp : p + 6 ≤ L) (h : Rel m n) (tail : ∀ (m : sM) (n : sN), Rel m n → sV (scT L xs) (d + 11) "LoafFallLaw" cL_law 4 (some .boolean) Q 1562 [some (.ref (100000 + 6)), some (.ref 0), some (.ref 239), some (.int (nI p))] [] m n) : sV (scT L xs) (d + 11) "LoafFallLaw" cL_law 4 (some .boolean) Q 1489 [some (.ref (100000 + 6)), some (.ref 0), some (.ref 239), some (.int (nI p))] [] m n := by
  refine y_aload_n dL_law_1489 rfl rfl ?_
  refine y_aload_n dL_law_1490 rfl rfl ?_
  refine y_iload_n dL_law_1491 rfl rfl ?_
  refine y_iconst (v := 1) dL_law_1492 (by decide) ?_
  refine y_iaddN (a := p) (b := 1) dL_law_1493 rfl rfl ?_
  refine y_saldN dL_law_1494 rfl rfl (by omega) (by omega) ?_
  refine y_ivI1 dL_law_1495 mv_L_193 my_X11_count (Or.inl rfl) sh_0 ?_
  refine sRun_mono ?_ (p_count h)
  intro r1 m1 n1 z1
  obtain ⟨v, e1, hk⟩ := z1
  refine ⟨v, e1, ?_⟩
  refine y_aload_n dL_law_1498 rfl rfl ?_
  refine y_aload_n dL_law_1499 rfl rfl ?_
  refine y_iload_n dL_law_1500 rfl rfl ?_
  refine y_iconst (v := 1) dL_law_1501 (by decide) ?_
  refine y_iaddN (a := p) (b := 1) dL_law_1502 rfl rfl ?_
  refine y_saldN dL_law_1503 rfl rfl (by omega) (by omega) ?_
  refine y_ivI1 dL_law_1504 mv_L_196 my_X12_count (Or.inl rfl) sh_239 ?_
  refine sRun_mono ?_ hk
  intro r2 m2 n2 z2
  obtain ⟨e2, h2⟩ := z2
  refine ⟨v, e2, ?_⟩
  refine y_icmp_eq (tgt := 1562) dL_law_1507 (by decide) (fun h1507 => ?_) (fun h1507 => absurd rfl h1507)
  exact tail m2 n2 h2
theorem lw_44 {L : Nat} {xs : Nat → Int32} {d p : Nat} {m : sM} {n : sN} {Q : sQ} (hL : L ≤ 3072) (hp : p + 6 ≤ L) (h : Rel m n) (tail : ∀ (m : sM) (n : sN), Rel m n → sV (scT L xs) (d + 11) "LoafFallLaw" cL_law 4 (some .boolean) Q 1562 [some (.ref (100000 + 6)), some (.ref 0), some (.ref 239), some (.int (nI p))] [] m n) : sV (scT L xs) (d + 11) "LoafFallLaw" cL_law 4 (some .boolean) Q 1512 [some (.ref (100000 + 6)), some (.ref 0), some (.ref 239), some (.int (nI p))] [] m n := by
  refine y_aload_n dL_law_1512 rfl rfl ?_
  refine y_ivI0 dL_law_1513 mv_L_197 my_X11_finding (Or.inl rfl) sh_0 ?_
  refine sRun_mono ?_ (p_finding h)
  intro r1 m1 n1 z1
  obtain ⟨v, e1, hk⟩ := z1
  refine ⟨v, e1, ?_⟩
  refine y_aload_n dL_law_1516 rfl rfl ?_
  refine y_ivI0 dL_law_1517 mv_L_200 my_X12_finding (Or.inl rfl) sh_239 ?_
  refine sRun_mono ?_ hk
  intro r2 m2 n2 z2
  obtain ⟨e2, h2⟩ := z2
  refine ⟨v, e2, ?_⟩
  refine y_icmp_eq (tgt := 1562) dL_law_1520 (by decide) (fun h1520 => ?_) (fun h1520 => absurd rfl h1520)
  exact tail m2 n2 h2
theorem lw_45 {L : Nat} {xs : Nat → Int32} {d p : Nat} {m : sM} {n : sN} {Q : sQ} (hL : L ≤ 3072) (hp : p + 6 ≤ L) (h : Rel m n) (tail : ∀ (m : sM) (n : sN), Rel m n → sV (scT L xs) (d + 11) "LoafFallLaw" cL_law 4 (some .boolean) Q 1562 [some (.ref (100000 + 6)), some (.ref 0), some (.ref 239), some (.int (nI p))] [] m n) : sV (scT L xs) (d + 11) "LoafFallLaw" cL_law 4 (some .boolean) Q 1525 [some (.ref (100000 + 6)), some (.ref 0), some (.ref 239), some (.int (nI p))] [] m n := by
  refine y_aload_n dL_law_1525 rfl rfl ?_
  refine y_aload_n dL_law_1526 rfl rfl ?_
  refine y_iload_n dL_law_1527 rfl rfl ?_
  refine y_iconst (v := 1) dL_law_1528 (by decide) ?_
  refine y_iaddN (a := p) (b := 1) dL_law_1529 rfl rfl ?_
  refine y_saldN dL_law_1530 rfl rfl (by omega) (by omega) ?_
  refine y_ivI1 dL_law_1531 mv_L_201 my_X11_findings (Or.inl rfl) sh_0 ?_
  refine sRun_mono ?_ (p_findings h)
  intro r1 m1 n1 z1
  obtain ⟨v, e1, hk⟩ := z1
  refine ⟨v, e1, ?_⟩
  refine y_aload_n dL_law_1534 rfl rfl ?_
  refine y_aload_n dL_law_1535 rfl rfl ?_
  refine y_iload_n dL_law_1536 rfl rfl ?_
  refine y_iconst (v := 1) dL_law_1537 (by decide) ?_
  refine y_iaddN (a := p) (b := 1) dL_law_1538 rfl rfl ?_
  refine y_saldN dL_law_1539 rfl rfl (by omega) (by omega) ?_
  refine y_ivI1 dL_law_1540 mv_L_204 my_X12_findings (Or.inl rfl) sh_239 ?_
  refine sRun_mono ?_ hk
  intro r2 m2 n2 z2
  obtain ⟨e2, h2⟩ := z2
  refine ⟨v, e2, ?_⟩
  refine y_icmp_eq (tgt := 1562) dL_law_1543 (by decide) (fun h1543 => ?_) (fun h1543 => absurd rfl h1543)
  exact tail m2 n2 h2
theorem lw_46 {L : Nat} {xs : Nat → Int32} {d p : Nat} {m : sM} {n : sN} {Q : sQ} (hL : L ≤ 3072) (hp : p + 6 ≤ L) (h : Rel m n) (tail : ∀ (m : sM) (n : sN), Rel m n → sV (scT L xs) (d + 11) "LoafFallLaw" cL_law 4 (some .boolean) Q 1562 [some (.ref (100000 + 6)), some (.ref 0), some (.ref 239), some (.int (nI p))] [] m n) : sV (scT L xs) (d + 11) "LoafFallLaw" cL_law 4 (some .boolean) Q 1548 [some (.ref (100000 + 6)), some (.ref 0), some (.ref 239), some (.int (nI p))] [] m n := by
  refine y_aload_n dL_law_1548 rfl rfl ?_
  refine y_ivL0 dL_law_1549 mv_L_205 my_X11_digest (Or.inl rfl) sh_0 ?_
  refine sRun_mono ?_ (p_digest h)
  intro r1 m1 n1 z1
  obtain ⟨v, e1, hk⟩ := z1
  refine ⟨v, e1, ?_⟩
  refine y_aload_n dL_law_1552 rfl rfl ?_
  refine y_ivL0 dL_law_1553 mv_L_208 my_X12_digest (Or.inl rfl) sh_239 ?_
  refine sRun_mono ?_ hk
  intro r2 m2 n2 z2
  obtain ⟨e2, h2⟩ := z2
  refine ⟨v, e2, ?_⟩
  refine y_lcmp dL_law_1556 ?_
  rw [lcmp_s]
  refine y_if_eq (tgt := 1562) dL_law_1557 (by decide) (fun h1557 => ?_) (fun h1557 => absurd rfl h1557)
  exact tail m2 n2 h2
