/-! HASHER: a block of SHA -/
def sh_P (S : ks_S) (st wo : Nat) (F f : Nat → Int32) (g : Nat → Nat) (i : Nat) : Option Value → ks_S → Prop := (fun r S' => r = none ∧ S' = ks_set (ks_set S wo (kI 64 (sh_ext (ks_upto (sh_B g i) f 16) 48))) st (kI 8 (sh_fin F (sh_rd sh_K (sh_ext (ks_upto (sh_B g i) f 16) 48) (sh_t F) 64))))
set_option maxRecDepth 100000 in
set_option maxHeartbeats 40000000 in
theorem l_shaRounds {l : Launch} {G : ks_G} {d : Nat} {S : ks_S} {h st wo fr N i : Nat} {F f : Nat → Int32} {g : Nat → Nat} {r2 r3 r4 r5 : Value} (hh : S.2.2 h = some (.inr (9, [.ref st, .ref wo, r2, r3, r4, r5]))) (hs : S.2.2 st = some (kI 8 F)) (hw : S.2.2 wo = some (kI 64 f)) (hf : S.2.2 fr = some (kB N g)) (hg : kO g) (hi : i + 64 ≤ N) (hN : N < 2 ^ 30) (hK : ks_stOK S) (hsB : st < ks_B) (hwB : wo < ks_B) (n_st_wo : st ≠ wo) (W : Nat → Int32) (hW : W = (sh_ext (ks_upto (sh_B g i) f 16) 48)) : ∀ k q, q + k = 64 → ks_X l G mX6_shaBlock d 269 [(11, .int (nI q)), (3, .int (sh_rd sh_K W (sh_t F) q).1), (4, .int (sh_rd sh_K W (sh_t F) q).2.1), (5, .int (sh_rd sh_K W (sh_t F) q).2.2.1), (6, .int (sh_rd sh_K W (sh_t F) q).2.2.2.1), (7, .int (sh_rd sh_K W (sh_t F) q).2.2.2.2.1), (8, .int (sh_rd sh_K W (sh_t F) q).2.2.2.2.2.1), (9, .int (sh_rd sh_K W (sh_t F) q).2.2.2.2.2.2.1), (10, .int (sh_rd sh_K W (sh_t F) q).2.2.2.2.2.2.2), (0, .ref h)] [] (ks_set S wo (kI 64 W)) (sh_P S st wo F f g i) := by
  have n_h_wo : h ≠ wo := ks_ne hh hw (by intro e; cases e)
  have n_h_st : h ≠ st := ks_ne hh hs (by intro e; cases e)
  have n_fr_wo : fr ≠ wo := ks_ne hf hw (by intro e; cases e)
  have n_fr_st : fr ≠ st := ks_ne hf hs (by intro e; cases e)
  have n_wo_st : wo ≠ st := Ne.symm n_st_wo
  have n_K6_wo : ks_B + 6 ≠ wo := by omega
  have n_K6_st : ks_B + 6 ≠ st := by omega
  intro k
  induction k with
  | zero =>
    intro q hq
    refine ks_iload dX6_shaBlock_269 rfl rfl ?_
    refine ks_bipush (x := 64) dX6_shaBlock_271 (by decide) rfl ?_
    refine ks_icmp_ge (tgt := 441) dX6_shaBlock_273 (by decide) rfl (fun hc => ?_) (fun hc => ?_)
    · refine ks_aload_n dX6_shaBlock_441 rfl rfl ?_
      refine ks_getf (T := TX6) (kf := 0) kx_81 rfl in_X6 cl_X6 (by decide) ((ks_set_ne _ _ n_h_wo).trans hh) rfl dX6_shaBlock_442 rfl ?_
      refine ks_iconst (x := 0) dX6_shaBlock_445 (by decide) rfl ?_
      refine ks_dup2_11 dX6_shaBlock_446 rfl rfl rfl ?_
      refine ks_ialdN ((ks_set_ne _ _ n_st_wo).trans hs) (i := 0) rfl (by decide) (by decide) dX6_shaBlock_447 rfl ?_
      refine ks_iload_n dX6_shaBlock_448 rfl rfl ?_
      refine ks_iadd dX6_shaBlock_449 rfl ?_
      refine ks_iastN hsB ((ks_set_ne _ _ n_st_wo).trans hs) (i := 0) rfl (by decide) (by decide) dX6_shaBlock_450 rfl ?_
      refine ks_aload_n dX6_shaBlock_451 rfl rfl ?_
      refine ks_getf (T := TX6) (kf := 0) kx_81 rfl in_X6 cl_X6 (by decide) ((ks_set_ne _ _ n_h_st).trans ((ks_set_ne _ _ n_h_wo).trans hh)) rfl dX6_shaBlock_452 rfl ?_
      refine ks_iconst (x := 1) dX6_shaBlock_455 (by decide) rfl ?_
      refine ks_dup2_11 dX6_shaBlock_456 rfl rfl rfl ?_
      refine ks_ialdN (ks_set_same _ _ _) (i := 1) rfl (by decide) (by decide) dX6_shaBlock_457 rfl ?_
      refine ks_iload dX6_shaBlock_458 rfl rfl ?_
      refine ks_iadd dX6_shaBlock_460 rfl ?_
      refine ks_iastN hsB (ks_set_same _ _ _) (i := 1) rfl (by decide) (by decide) dX6_shaBlock_461 rfl ?_
      refine ks_aload_n dX6_shaBlock_462 rfl rfl ?_
      refine ks_getf (T := TX6) (kf := 0) kx_81 rfl in_X6 cl_X6 (by decide) ((ks_set_ne _ _ n_h_st).trans ((ks_set_ne _ _ n_h_st).trans ((ks_set_ne _ _ n_h_wo).trans hh))) rfl dX6_shaBlock_463 rfl ?_
      refine ks_iconst (x := 2) dX6_shaBlock_466 (by decide) rfl ?_
      refine ks_dup2_11 dX6_shaBlock_467 rfl rfl rfl ?_
      refine ks_ialdN (ks_set_same _ _ _) (i := 2) rfl (by decide) (by decide) dX6_shaBlock_468 rfl ?_
      refine ks_iload dX6_shaBlock_469 rfl rfl ?_
      refine ks_iadd dX6_shaBlock_471 rfl ?_
      refine ks_iastN hsB (ks_set_same _ _ _) (i := 2) rfl (by decide) (by decide) dX6_shaBlock_472 rfl ?_
      refine ks_aload_n dX6_shaBlock_473 rfl rfl ?_
      refine ks_getf (T := TX6) (kf := 0) kx_81 rfl in_X6 cl_X6 (by decide) ((ks_set_ne _ _ n_h_st).trans ((ks_set_ne _ _ n_h_st).trans ((ks_set_ne _ _ n_h_st).trans ((ks_set_ne _ _ n_h_wo).trans hh)))) rfl dX6_shaBlock_474 rfl ?_
      refine ks_iconst (x := 3) dX6_shaBlock_477 (by decide) rfl ?_
      refine ks_dup2_11 dX6_shaBlock_478 rfl rfl rfl ?_
      refine ks_ialdN (ks_set_same _ _ _) (i := 3) rfl (by decide) (by decide) dX6_shaBlock_479 rfl ?_
      refine ks_iload dX6_shaBlock_480 rfl rfl ?_
      refine ks_iadd dX6_shaBlock_482 rfl ?_
      refine ks_iastN hsB (ks_set_same _ _ _) (i := 3) rfl (by decide) (by decide) dX6_shaBlock_483 rfl ?_
      refine ks_aload_n dX6_shaBlock_484 rfl rfl ?_
      refine ks_getf (T := TX6) (kf := 0) kx_81 rfl in_X6 cl_X6 (by decide) ((ks_set_ne _ _ n_h_st).trans ((ks_set_ne _ _ n_h_st).trans ((ks_set_ne _ _ n_h_st).trans ((ks_set_ne _ _ n_h_st).trans ((ks_set_ne _ _ n_h_wo).trans hh))))) rfl dX6_shaBlock_485 rfl ?_
      refine ks_iconst (x := 4) dX6_shaBlock_488 (by decide) rfl ?_
      refine ks_dup2_11 dX6_shaBlock_489 rfl rfl rfl ?_
      refine ks_ialdN (ks_set_same _ _ _) (i := 4) rfl (by decide) (by decide) dX6_shaBlock_490 rfl ?_
      refine ks_iload dX6_shaBlock_491 rfl rfl ?_
      refine ks_iadd dX6_shaBlock_493 rfl ?_
      refine ks_iastN hsB (ks_set_same _ _ _) (i := 4) rfl (by decide) (by decide) dX6_shaBlock_494 rfl ?_
      refine ks_aload_n dX6_shaBlock_495 rfl rfl ?_
      refine ks_getf (T := TX6) (kf := 0) kx_81 rfl in_X6 cl_X6 (by decide) ((ks_set_ne _ _ n_h_st).trans ((ks_set_ne _ _ n_h_st).trans ((ks_set_ne _ _ n_h_st).trans ((ks_set_ne _ _ n_h_st).trans ((ks_set_ne _ _ n_h_st).trans ((ks_set_ne _ _ n_h_wo).trans hh)))))) rfl dX6_shaBlock_496 rfl ?_
      refine ks_iconst (x := 5) dX6_shaBlock_499 (by decide) rfl ?_
      refine ks_dup2_11 dX6_shaBlock_500 rfl rfl rfl ?_
      refine ks_ialdN (ks_set_same _ _ _) (i := 5) rfl (by decide) (by decide) dX6_shaBlock_501 rfl ?_
      refine ks_iload dX6_shaBlock_502 rfl rfl ?_
      refine ks_iadd dX6_shaBlock_504 rfl ?_
      refine ks_iastN hsB (ks_set_same _ _ _) (i := 5) rfl (by decide) (by decide) dX6_shaBlock_505 rfl ?_
      refine ks_aload_n dX6_shaBlock_506 rfl rfl ?_
      refine ks_getf (T := TX6) (kf := 0) kx_81 rfl in_X6 cl_X6 (by decide) ((ks_set_ne _ _ n_h_st).trans ((ks_set_ne _ _ n_h_st).trans ((ks_set_ne _ _ n_h_st).trans ((ks_set_ne _ _ n_h_st).trans ((ks_set_ne _ _ n_h_st).trans ((ks_set_ne _ _ n_h_st).trans ((ks_set_ne _ _ n_h_wo).trans hh))))))) rfl dX6_shaBlock_507 rfl ?_
      refine ks_bipush (x := 6) dX6_shaBlock_510 (by decide) rfl ?_
      refine ks_dup2_11 dX6_shaBlock_512 rfl rfl rfl ?_
      refine ks_ialdN (ks_set_same _ _ _) (i := 6) rfl (by decide) (by decide) dX6_shaBlock_513 rfl ?_
      refine ks_iload dX6_shaBlock_514 rfl rfl ?_
      refine ks_iadd dX6_shaBlock_516 rfl ?_
      refine ks_iastN hsB (ks_set_same _ _ _) (i := 6) rfl (by decide) (by decide) dX6_shaBlock_517 rfl ?_
      refine ks_aload_n dX6_shaBlock_518 rfl rfl ?_
      refine ks_getf (T := TX6) (kf := 0) kx_81 rfl in_X6 cl_X6 (by decide) ((ks_set_ne _ _ n_h_st).trans ((ks_set_ne _ _ n_h_st).trans ((ks_set_ne _ _ n_h_st).trans ((ks_set_ne _ _ n_h_st).trans ((ks_set_ne _ _ n_h_st).trans ((ks_set_ne _ _ n_h_st).trans ((ks_set_ne _ _ n_h_st).trans ((ks_set_ne _ _ n_h_wo).trans hh)))))))) rfl dX6_shaBlock_519 rfl ?_
      refine ks_bipush (x := 7) dX6_shaBlock_522 (by decide) rfl ?_
      refine ks_dup2_11 dX6_shaBlock_524 rfl rfl rfl ?_
      refine ks_ialdN (ks_set_same _ _ _) (i := 7) rfl (by decide) (by decide) dX6_shaBlock_525 rfl ?_
      refine ks_iload dX6_shaBlock_526 rfl rfl ?_
      refine ks_iadd dX6_shaBlock_528 rfl ?_
      refine ks_iastN hsB (ks_set_same _ _ _) (i := 7) rfl (by decide) (by decide) dX6_shaBlock_529 rfl ?_
      refine ks_ret rfl dX6_shaBlock_530 ?_
      refine ⟨rfl, ?_⟩
      rw [show q = 64 by omega, hW]
      simp only [ks_set_set]
      rfl
    · exact absurd (nI_le (a := 64) (by omega) (by omega)) hc
  | succ k ih =>
    intro q hq
    refine ks_iload dX6_shaBlock_269 rfl rfl ?_
    refine ks_bipush (x := 64) dX6_shaBlock_271 (by decide) rfl ?_
    refine ks_icmp_ge (tgt := 441) dX6_shaBlock_273 (by decide) rfl (fun hc => ?_) (fun hc => ?_)
    · exact absurd hc (nI_ge (b := 64) (by omega) (by decide))
    · refine ks_iload dX6_shaBlock_276 rfl rfl ?_
      refine ks_bipush (x := 6) dX6_shaBlock_278 (by decide) rfl ?_
      refine ks_iushr dX6_shaBlock_280 rfl ?_
      refine ks_iload dX6_shaBlock_281 rfl rfl ?_
      refine ks_bipush (x := 26) dX6_shaBlock_283 (by decide) rfl ?_
      refine ks_ishl dX6_shaBlock_285 rfl ?_
      refine ks_ior dX6_shaBlock_286 rfl ?_
      refine ks_iload dX6_shaBlock_287 rfl rfl ?_
      refine ks_bipush (x := 11) dX6_shaBlock_289 (by decide) rfl ?_
      refine ks_iushr dX6_shaBlock_291 rfl ?_
      refine ks_iload dX6_shaBlock_292 rfl rfl ?_
      refine ks_bipush (x := 21) dX6_shaBlock_294 (by decide) rfl ?_
      refine ks_ishl dX6_shaBlock_296 rfl ?_
      refine ks_ior dX6_shaBlock_297 rfl ?_
      refine ks_ixor dX6_shaBlock_298 rfl ?_
      refine ks_iload dX6_shaBlock_299 rfl rfl ?_
      refine ks_bipush (x := 25) dX6_shaBlock_301 (by decide) rfl ?_
      refine ks_iushr dX6_shaBlock_303 rfl ?_
      refine ks_iload dX6_shaBlock_304 rfl rfl ?_
      refine ks_bipush (x := 7) dX6_shaBlock_306 (by decide) rfl ?_
      refine ks_ishl dX6_shaBlock_308 rfl ?_
      refine ks_ior dX6_shaBlock_309 rfl ?_
      refine ks_ixor dX6_shaBlock_310 rfl ?_
      refine ks_istore dX6_shaBlock_311 (by decide) rfl ?_
      refine ks_iload dX6_shaBlock_313 rfl rfl ?_
      refine ks_iload dX6_shaBlock_315 rfl rfl ?_
      refine ks_iadd dX6_shaBlock_317 rfl ?_
      refine ks_iload dX6_shaBlock_318 rfl rfl ?_
      refine ks_iload dX6_shaBlock_320 rfl rfl ?_
      refine ks_iand dX6_shaBlock_322 rfl ?_
      refine ks_iload dX6_shaBlock_323 rfl rfl ?_
      refine ks_iconst (x := (-1)) dX6_shaBlock_325 (by decide) rfl ?_
      refine ks_ixor dX6_shaBlock_326 rfl ?_
      refine ks_iload dX6_shaBlock_327 rfl rfl ?_
      refine ks_iand dX6_shaBlock_329 rfl ?_
      refine ks_ixor dX6_shaBlock_330 rfl ?_
      refine ks_iadd dX6_shaBlock_331 rfl ?_
      refine ks_gets (i := 6) rfl rfl kx_891 dX6_shaBlock_332 rfl ?_
      refine ks_iload dX6_shaBlock_335 rfl rfl ?_
      refine ks_ialdN ((ks_set_ne _ _ n_K6_wo).trans (hK 6 _ rfl)) rfl (by show q < 64; omega) (by decide) dX6_shaBlock_337 rfl ?_
      refine ks_iadd dX6_shaBlock_338 rfl ?_
      refine ks_aload_n dX6_shaBlock_339 rfl rfl ?_
      refine ks_getf (T := TX6) (kf := 1) kx_82 rfl in_X6 cl_X6 (by decide) ((ks_set_ne _ _ n_h_wo).trans hh) rfl dX6_shaBlock_340 rfl ?_
      refine ks_iload dX6_shaBlock_343 rfl rfl ?_
      refine ks_ialdN (ks_set_same _ _ _) rfl (by omega) (by decide) dX6_shaBlock_345 rfl ?_
      refine ks_iadd dX6_shaBlock_346 rfl ?_
      refine ks_istore dX6_shaBlock_347 (by decide) rfl ?_
      refine ks_iload_n dX6_shaBlock_349 rfl rfl ?_
      refine ks_iconst (x := 2) dX6_shaBlock_350 (by decide) rfl ?_
      refine ks_iushr dX6_shaBlock_351 rfl ?_
      refine ks_iload_n dX6_shaBlock_352 rfl rfl ?_
      refine ks_bipush (x := 30) dX6_shaBlock_353 (by decide) rfl ?_
      refine ks_ishl dX6_shaBlock_355 rfl ?_
      refine ks_ior dX6_shaBlock_356 rfl ?_
      refine ks_iload_n dX6_shaBlock_357 rfl rfl ?_
      refine ks_bipush (x := 13) dX6_shaBlock_358 (by decide) rfl ?_
      refine ks_iushr dX6_shaBlock_360 rfl ?_
      refine ks_iload_n dX6_shaBlock_361 rfl rfl ?_
      refine ks_bipush (x := 19) dX6_shaBlock_362 (by decide) rfl ?_
      refine ks_ishl dX6_shaBlock_364 rfl ?_
      refine ks_ior dX6_shaBlock_365 rfl ?_
      refine ks_ixor dX6_shaBlock_366 rfl ?_
      refine ks_iload_n dX6_shaBlock_367 rfl rfl ?_
      refine ks_bipush (x := 22) dX6_shaBlock_368 (by decide) rfl ?_
      refine ks_iushr dX6_shaBlock_370 rfl ?_
      refine ks_iload_n dX6_shaBlock_371 rfl rfl ?_
      refine ks_bipush (x := 10) dX6_shaBlock_372 (by decide) rfl ?_
      refine ks_ishl dX6_shaBlock_374 rfl ?_
      refine ks_ior dX6_shaBlock_375 rfl ?_
      refine ks_ixor dX6_shaBlock_376 rfl ?_
      refine ks_istore dX6_shaBlock_377 (by decide) rfl ?_
      refine ks_iload dX6_shaBlock_379 rfl rfl ?_
      refine ks_iload_n dX6_shaBlock_381 rfl rfl ?_
      refine ks_iload dX6_shaBlock_382 rfl rfl ?_
      refine ks_iand dX6_shaBlock_384 rfl ?_
      refine ks_iload_n dX6_shaBlock_385 rfl rfl ?_
      refine ks_iload dX6_shaBlock_386 rfl rfl ?_
      refine ks_iand dX6_shaBlock_388 rfl ?_
      refine ks_ixor dX6_shaBlock_389 rfl ?_
      refine ks_iload dX6_shaBlock_390 rfl rfl ?_
      refine ks_iload dX6_shaBlock_392 rfl rfl ?_
      refine ks_iand dX6_shaBlock_394 rfl ?_
      refine ks_ixor dX6_shaBlock_395 rfl ?_
      refine ks_iadd dX6_shaBlock_396 rfl ?_
      refine ks_istore dX6_shaBlock_397 (by decide) rfl ?_
      refine ks_iload dX6_shaBlock_399 rfl rfl ?_
      refine ks_istore dX6_shaBlock_401 (by decide) rfl ?_
      refine ks_iload dX6_shaBlock_403 rfl rfl ?_
      refine ks_istore dX6_shaBlock_405 (by decide) rfl ?_
      refine ks_iload dX6_shaBlock_407 rfl rfl ?_
      refine ks_istore dX6_shaBlock_409 (by decide) rfl ?_
      refine ks_iload dX6_shaBlock_411 rfl rfl ?_
      refine ks_iload dX6_shaBlock_413 rfl rfl ?_
      refine ks_iadd dX6_shaBlock_415 rfl ?_
      refine ks_istore dX6_shaBlock_416 (by decide) rfl ?_
      refine ks_iload dX6_shaBlock_418 rfl rfl ?_
      refine ks_istore dX6_shaBlock_420 (by decide) rfl ?_
      refine ks_iload dX6_shaBlock_422 rfl rfl ?_
      refine ks_istore dX6_shaBlock_424 (by decide) rfl ?_
      refine ks_iload_n dX6_shaBlock_426 rfl rfl ?_
      refine ks_istore dX6_shaBlock_427 (by decide) rfl ?_
      refine ks_iload dX6_shaBlock_429 rfl rfl ?_
      refine ks_iload dX6_shaBlock_431 rfl rfl ?_
      refine ks_iadd dX6_shaBlock_433 rfl ?_
      refine ks_istore_n dX6_shaBlock_434 (by decide) rfl ?_
      refine ks_iinc (y := nI (q + 1)) dX6_shaBlock_435 rfl (ks_p1 q) (by decide) rfl ?_
      refine ks_goto (tgt := 269) dX6_shaBlock_438 (by decide) ?_
      exact ks_sub _ rfl (ih (q + 1) (by omega))
