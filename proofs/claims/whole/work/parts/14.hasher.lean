/-! HASHER: a block of SHA -/
/-- nothing but the cells L was written, none was made -/
def ks_up (S S' : ks_S) (L : List Nat) : Prop := S'.1 = S.1 ∧ S'.2.1 = S.2.1 ∧ ∀ a, a ∉ L → S'.2.2 a = S.2.2 a
theorem ks_up.rf (S : ks_S) (L : List Nat) : ks_up S S L := ⟨rfl, rfl, fun _ _ => rfl⟩
theorem ks_up.trans {S S1 S2 : ks_S} {L : List Nat} (h1 : ks_up S S1 L) (h2 : ks_up S1 S2 L) : ks_up S S2 L := ⟨h2.1.trans h1.1, h2.2.1.trans h1.2.1, fun a ha => (h2.2.2 a ha).trans (h1.2.2 a ha)⟩
theorem ks_up.mono {S S1 : ks_S} {L L' : List Nat} (h : ks_up S S1 L) (hl : ∀ a, a ∈ L → a ∈ L') : ks_up S S1 L' := ⟨h.1, h.2.1, fun a ha => h.2.2 a (fun e => ha (hl a e))⟩
theorem ks_up_set (S : ks_S) {a : Nat} (e : ks_E) {L : List Nat} (ha : a ∈ L) : ks_up S (ks_set S a e) L := ⟨rfl, rfl, fun b hb => ks_set_ne S e (fun h => hb (by rw [h]; exact ha))⟩
theorem ks_up.at {S S1 : ks_S} {L : List Nat} (h : ks_up S S1 L) {a : Nat} {e : ks_E} (ha : S.2.2 a = some e) (hn : a ∉ L) : S1.2.2 a = some e := (h.2.2 a hn).trans ha
theorem ks_up.st {S S1 : ks_S} {L : List Nat} (h : ks_up S S1 L) (hK : ks_stOK S) (hL : ∀ a ∈ L, a < ks_B) : ks_stOK S1 := fun i q hq => h.at (hK i q hq) (fun hm => by have := hL _ hm; omega)
def sh_P (S : ks_S) (st wo : Nat) (F f : Nat → Int32) (g : Nat → Nat) (i : Nat) : Option Value → ks_S → Prop := (fun r S' => r = none ∧ S' = ks_set (ks_set S wo (kI 64 (sh_ext (ks_upto (sh_B g i) f 16) 48))) st (kI 8 (sh_fin F (sh_rd sh_K (sh_ext (ks_upto (sh_B g i) f 16) 48) (sh_t F) 64))))
set_option maxRecDepth 100000 in
set_option maxHeartbeats 40000000 in
theorem l_shaRounds {l : Launch} {G : ks_G} {d : Nat} {S : ks_S} {h st wo fr N i : Nat} {F f : Nat → Int32} {g : Nat → Nat} {r2 r3 r4 r5 : Value} (hh : S.2.2 h = some (.inr (9, [.ref st, .ref wo, r2, r3, r4, r5]))) (hs : S.2.2 st = some (kI 8 F)) (hw : S.2.2 wo = some (kI 64 f)) (hf : S.2.2 fr = some (kB N g)) (hg : kO g) (hi : i + 64 ≤ N) (hN : N < 2 ^ 30) (hK : ks_stOK S) (hsB : st < ks_B) (hwB : wo < ks_B) (n_st_wo : st ≠ wo) (W : Nat → Int32) (hW : W = (sh_ext (ks_upto (sh_B g i) f 16) 48)) : ∀ k q, q + k = 64 → ks_X l G mX6_shaBlock d 269 [(11, .int (nI q)), (3, .int (sh_rd sh_K W (sh_t F) q).1), (4, .int (sh_rd sh_K W (sh_t F) q).2.1), (5, .int (sh_rd sh_K W (sh_t F) q).2.2.1), (6, .int (sh_rd sh_K W (sh_t F) q).2.2.2.1), (7, .int (sh_rd sh_K W (sh_t F) q).2.2.2.2.1), (8, .int (sh_rd sh_K W (sh_t F) q).2.2.2.2.2.1), (9, .int (sh_rd sh_K W (sh_t F) q).2.2.2.2.2.2.1), (10, .int (sh_rd sh_K W (sh_t F) q).2.2.2.2.2.2.2), (0, .ref h)] [] (ks_set S wo (kI 64 W)) (sh_P S st wo F f g i) := by
  have n_h_wo : h ≠ wo := ks_ne hh hw (by intro e; cases e)
  have n_h_st : h ≠ st := ks_ne hh hs (by intro e; cases e)
  have n_fr_wo : fr ≠ wo := ks_ne hf hw (by intro e; cases e)
  have n_fr_st : fr ≠ st := ks_ne hf hs (by intro e; cases e)
  have n_wo_st : wo ≠ st := Ne.symm n_st_wo
  have n_K6_wo : ks_B + 6 ≠ wo := by omega
  have n_K6_st : ks_B + 6 ≠ st := by omega
  intro k
  induction k with
  | zero =>
    intro q hq
    refine ks_iload dX6_shaBlock_269 rfl rfl ?_
    refine ks_bipush (x := 64) dX6_shaBlock_271 (by decide) rfl ?_
    refine ks_icmp_ge (tgt := 441) dX6_shaBlock_273 (by decide) rfl (fun hc => ?_) (fun hc => ?_)
    · refine ks_aload_n dX6_shaBlock_441 rfl rfl ?_
      refine ks_getf (T := TX6) (kf := 0) kx_81 rfl in_X6 cl_X6 (by decide) ((ks_set_ne _ _ n_h_wo).trans hh) rfl dX6_shaBlock_442 rfl ?_
      refine ks_iconst (x := 0) dX6_shaBlock_445 (by decide) rfl ?_
      refine ks_dup2_11 dX6_shaBlock_446 rfl rfl rfl ?_
      refine ks_ialdN ((ks_set_ne _ _ n_st_wo).trans hs) (i := 0) rfl (by decide) (by decide) dX6_shaBlock_447 rfl ?_
      refine ks_iload_n dX6_shaBlock_448 rfl rfl ?_
      refine ks_iadd dX6_shaBlock_449 rfl ?_
      refine ks_iastN hsB ((ks_set_ne _ _ n_st_wo).trans hs) (i := 0) rfl (by decide) (by decide) dX6_shaBlock_450 rfl ?_
      refine ks_aload_n dX6_shaBlock_451 rfl rfl ?_
      refine ks_getf (T := TX6) (kf := 0) kx_81 rfl in_X6 cl_X6 (by decide) ((ks_set_ne _ _ n_h_st).trans ((ks_set_ne _ _ n_h_wo).trans hh)) rfl dX6_shaBlock_452 rfl ?_
      refine ks_iconst (x := 1) dX6_shaBlock_455 (by decide) rfl ?_
      refine ks_dup2_11 dX6_shaBlock_456 rfl rfl rfl ?_
      refine ks_ialdN (ks_set_same _ _ _) (i := 1) rfl (by decide) (by decide) dX6_shaBlock_457 rfl ?_
      refine ks_iload dX6_shaBlock_458 rfl rfl ?_
      refine ks_iadd dX6_shaBlock_460 rfl ?_
      refine ks_iastN hsB (ks_set_same _ _ _) (i := 1) rfl (by decide) (by decide) dX6_shaBlock_461 rfl ?_
      refine ks_aload_n dX6_shaBlock_462 rfl rfl ?_
      refine ks_getf (T := TX6) (kf := 0) kx_81 rfl in_X6 cl_X6 (by decide) ((ks_set_ne _ _ n_h_st).trans ((ks_set_ne _ _ n_h_st).trans ((ks_set_ne _ _ n_h_wo).trans hh))) rfl dX6_shaBlock_463 rfl ?_
      refine ks_iconst (x := 2) dX6_shaBlock_466 (by decide) rfl ?_
      refine ks_dup2_11 dX6_shaBlock_467 rfl rfl rfl ?_
      refine ks_ialdN (ks_set_same _ _ _) (i := 2) rfl (by decide) (by decide) dX6_shaBlock_468 rfl ?_
      refine ks_iload dX6_shaBlock_469 rfl rfl ?_
      refine ks_iadd dX6_shaBlock_471 rfl ?_
      refine ks_iastN hsB (ks_set_same _ _ _) (i := 2) rfl (by decide) (by decide) dX6_shaBlock_472 rfl ?_
      refine ks_aload_n dX6_shaBlock_473 rfl rfl ?_
      refine ks_getf (T := TX6) (kf := 0) kx_81 rfl in_X6 cl_X6 (by decide) ((ks_set_ne _ _ n_h_st).trans ((ks_set_ne _ _ n_h_st).trans ((ks_set_ne _ _ n_h_st).trans ((ks_set_ne _ _ n_h_wo).trans hh)))) rfl dX6_shaBlock_474 rfl ?_
      refine ks_iconst (x := 3) dX6_shaBlock_477 (by decide) rfl ?_
      refine ks_dup2_11 dX6_shaBlock_478 rfl rfl rfl ?_
      refine ks_ialdN (ks_set_same _ _ _) (i := 3) rfl (by decide) (by decide) dX6_shaBlock_479 rfl ?_
      refine ks_iload dX6_shaBlock_480 rfl rfl ?_
      refine ks_iadd dX6_shaBlock_482 rfl ?_
      refine ks_iastN hsB (ks_set_same _ _ _) (i := 3) rfl (by decide) (by decide) dX6_shaBlock_483 rfl ?_
      refine ks_aload_n dX6_shaBlock_484 rfl rfl ?_
      refine ks_getf (T := TX6) (kf := 0) kx_81 rfl in_X6 cl_X6 (by decide) ((ks_set_ne _ _ n_h_st).trans ((ks_set_ne _ _ n_h_st).trans ((ks_set_ne _ _ n_h_st).trans ((ks_set_ne _ _ n_h_st).trans ((ks_set_ne _ _ n_h_wo).trans hh))))) rfl dX6_shaBlock_485 rfl ?_
      refine ks_iconst (x := 4) dX6_shaBlock_488 (by decide) rfl ?_
      refine ks_dup2_11 dX6_shaBlock_489 rfl rfl rfl ?_
      refine ks_ialdN (ks_set_same _ _ _) (i := 4) rfl (by decide) (by decide) dX6_shaBlock_490 rfl ?_
      refine ks_iload dX6_shaBlock_491 rfl rfl ?_
      refine ks_iadd dX6_shaBlock_493 rfl ?_
      refine ks_iastN hsB (ks_set_same _ _ _) (i := 4) rfl (by decide) (by decide) dX6_shaBlock_494 rfl ?_
      refine ks_aload_n dX6_shaBlock_495 rfl rfl ?_
      refine ks_getf (T := TX6) (kf := 0) kx_81 rfl in_X6 cl_X6 (by decide) ((ks_set_ne _ _ n_h_st).trans ((ks_set_ne _ _ n_h_st).trans ((ks_set_ne _ _ n_h_st).trans ((ks_set_ne _ _ n_h_st).trans ((ks_set_ne _ _ n_h_st).trans ((ks_set_ne _ _ n_h_wo).trans hh)))))) rfl dX6_shaBlock_496 rfl ?_
      refine ks_iconst (x := 5) dX6_shaBlock_499 (by decide) rfl ?_
      refine ks_dup2_11 dX6_shaBlock_500 rfl rfl rfl ?_
      refine ks_ialdN (ks_set_same _ _ _) (i := 5) rfl (by decide) (by decide) dX6_shaBlock_501 rfl ?_
      refine ks_iload dX6_shaBlock_502 rfl rfl ?_
      refine ks_iadd dX6_shaBlock_504 rfl ?_
      refine ks_iastN hsB (ks_set_same _ _ _) (i := 5) rfl (by decide) (by decide) dX6_shaBlock_505 rfl ?_
      refine ks_aload_n dX6_shaBlock_506 rfl rfl ?_
      refine ks_getf (T := TX6) (kf := 0) kx_81 rfl in_X6 cl_X6 (by decide) ((ks_set_ne _ _ n_h_st).trans ((ks_set_ne _ _ n_h_st).trans ((ks_set_ne _ _ n_h_st).trans ((ks_set_ne _ _ n_h_st).trans ((ks_set_ne _ _ n_h_st).trans ((ks_set_ne _ _ n_h_st).trans ((ks_set_ne _ _ n_h_wo).trans hh))))))) rfl dX6_shaBlock_507 rfl ?_
      refine ks_bipush (x := 6) dX6_shaBlock_510 (by decide) rfl ?_
      refine ks_dup2_11 dX6_shaBlock_512 rfl rfl rfl ?_
      refine ks_ialdN (ks_set_same _ _ _) (i := 6) rfl (by decide) (by decide) dX6_shaBlock_513 rfl ?_
      refine ks_iload dX6_shaBlock_514 rfl rfl ?_
      refine ks_iadd dX6_shaBlock_516 rfl ?_
      refine ks_iastN hsB (ks_set_same _ _ _) (i := 6) rfl (by decide) (by decide) dX6_shaBlock_517 rfl ?_
      refine ks_aload_n dX6_shaBlock_518 rfl rfl ?_
      refine ks_getf (T := TX6) (kf := 0) kx_81 rfl in_X6 cl_X6 (by decide) ((ks_set_ne _ _ n_h_st).trans ((ks_set_ne _ _ n_h_st).trans ((ks_set_ne _ _ n_h_st).trans ((ks_set_ne _ _ n_h_st).trans ((ks_set_ne _ _ n_h_st).trans ((ks_set_ne _ _ n_h_st).trans ((ks_set_ne _ _ n_h_st).trans ((ks_set_ne _ _ n_h_wo).trans hh)))))))) rfl dX6_shaBlock_519 rfl ?_
      refine ks_bipush (x := 7) dX6_shaBlock_522 (by decide) rfl ?_
      refine ks_dup2_11 dX6_shaBlock_524 rfl rfl rfl ?_
      refine ks_ialdN (ks_set_same _ _ _) (i := 7) rfl (by decide) (by decide) dX6_shaBlock_525 rfl ?_
      refine ks_iload dX6_shaBlock_526 rfl rfl ?_
      refine ks_iadd dX6_shaBlock_528 rfl ?_
      refine ks_iastN hsB (ks_set_same _ _ _) (i := 7) rfl (by decide) (by decide) dX6_shaBlock_529 rfl ?_
      refine ks_ret rfl dX6_shaBlock_530 ?_
      refine ⟨rfl, ?_⟩
      rw [show q = 64 by omega, hW]
      simp only [ks_set_set]
      rfl
    · exact absurd (nI_le (a := 64) (by omega) (by omega)) hc
  | succ k ih =>
    intro q hq
    refine ks_iload dX6_shaBlock_269 rfl rfl ?_
    refine ks_bipush (x := 64) dX6_shaBlock_271 (by decide) rfl ?_
    refine ks_icmp_ge (tgt := 441) dX6_shaBlock_273 (by decide) rfl (fun hc => ?_) (fun hc => ?_)
    · exact absurd hc (nI_ge (b := 64) (by omega) (by decide))
    · refine ks_iload dX6_shaBlock_276 rfl rfl ?_
      refine ks_bipush (x := 6) dX6_shaBlock_278 (by decide) rfl ?_
      refine ks_iushr dX6_shaBlock_280 rfl ?_
      refine ks_iload dX6_shaBlock_281 rfl rfl ?_
      refine ks_bipush (x := 26) dX6_shaBlock_283 (by decide) rfl ?_
      refine ks_ishl dX6_shaBlock_285 rfl ?_
      refine ks_ior dX6_shaBlock_286 rfl ?_
      refine ks_iload dX6_shaBlock_287 rfl rfl ?_
      refine ks_bipush (x := 11) dX6_shaBlock_289 (by decide) rfl ?_
      refine ks_iushr dX6_shaBlock_291 rfl ?_
      refine ks_iload dX6_shaBlock_292 rfl rfl ?_
      refine ks_bipush (x := 21) dX6_shaBlock_294 (by decide) rfl ?_
      refine ks_ishl dX6_shaBlock_296 rfl ?_
      refine ks_ior dX6_shaBlock_297 rfl ?_
      refine ks_ixor dX6_shaBlock_298 rfl ?_
      refine ks_iload dX6_shaBlock_299 rfl rfl ?_
      refine ks_bipush (x := 25) dX6_shaBlock_301 (by decide) rfl ?_
      refine ks_iushr dX6_shaBlock_303 rfl ?_
      refine ks_iload dX6_shaBlock_304 rfl rfl ?_
      refine ks_bipush (x := 7) dX6_shaBlock_306 (by decide) rfl ?_
      refine ks_ishl dX6_shaBlock_308 rfl ?_
      refine ks_ior dX6_shaBlock_309 rfl ?_
      refine ks_ixor dX6_shaBlock_310 rfl ?_
      refine ks_istore dX6_shaBlock_311 (by decide) rfl ?_
      refine ks_sub [(12, _), (11, _), (3, _), (4, _), (5, _), (6, _), (7, _), (8, _), (9, _), (10, _), (0, _)] rfl ?_
      refine ks_iload dX6_shaBlock_313 rfl rfl ?_
      refine ks_iload dX6_shaBlock_315 rfl rfl ?_
      refine ks_iadd dX6_shaBlock_317 rfl ?_
      refine ks_iload dX6_shaBlock_318 rfl rfl ?_
      refine ks_iload dX6_shaBlock_320 rfl rfl ?_
      refine ks_iand dX6_shaBlock_322 rfl ?_
      refine ks_iload dX6_shaBlock_323 rfl rfl ?_
      refine ks_iconst (x := (-1)) dX6_shaBlock_325 (by decide) rfl ?_
      refine ks_ixor dX6_shaBlock_326 rfl ?_
      refine ks_iload dX6_shaBlock_327 rfl rfl ?_
      refine ks_iand dX6_shaBlock_329 rfl ?_
      refine ks_ixor dX6_shaBlock_330 rfl ?_
      refine ks_iadd dX6_shaBlock_331 rfl ?_
      refine ks_gets (i := 6) rfl rfl kx_891 dX6_shaBlock_332 rfl ?_
      refine ks_iload dX6_shaBlock_335 rfl rfl ?_
      refine ks_ialdN ((ks_set_ne _ _ n_K6_wo).trans (hK 6 _ rfl)) rfl (by show q < 64; omega) (by decide) dX6_shaBlock_337 rfl ?_
      refine ks_iadd dX6_shaBlock_338 rfl ?_
      refine ks_aload_n dX6_shaBlock_339 rfl rfl ?_
      refine ks_getf (T := TX6) (kf := 1) kx_82 rfl in_X6 cl_X6 (by decide) ((ks_set_ne _ _ n_h_wo).trans hh) rfl dX6_shaBlock_340 rfl ?_
      refine ks_iload dX6_shaBlock_343 rfl rfl ?_
      refine ks_ialdN (ks_set_same _ _ _) rfl (by omega) (by decide) dX6_shaBlock_345 rfl ?_
      refine ks_iadd dX6_shaBlock_346 rfl ?_
      refine ks_istore dX6_shaBlock_347 (by decide) rfl ?_
      refine ks_sub [(13, _), (11, _), (3, _), (4, _), (5, _), (6, _), (7, _), (8, _), (9, _), (10, _), (0, _), (12, _)] rfl ?_
      refine ks_iload_n dX6_shaBlock_349 rfl rfl ?_
      refine ks_iconst (x := 2) dX6_shaBlock_350 (by decide) rfl ?_
      refine ks_iushr dX6_shaBlock_351 rfl ?_
      refine ks_iload_n dX6_shaBlock_352 rfl rfl ?_
      refine ks_bipush (x := 30) dX6_shaBlock_353 (by decide) rfl ?_
      refine ks_ishl dX6_shaBlock_355 rfl ?_
      refine ks_ior dX6_shaBlock_356 rfl ?_
      refine ks_iload_n dX6_shaBlock_357 rfl rfl ?_
      refine ks_bipush (x := 13) dX6_shaBlock_358 (by decide) rfl ?_
      refine ks_iushr dX6_shaBlock_360 rfl ?_
      refine ks_iload_n dX6_shaBlock_361 rfl rfl ?_
      refine ks_bipush (x := 19) dX6_shaBlock_362 (by decide) rfl ?_
      refine ks_ishl dX6_shaBlock_364 rfl ?_
      refine ks_ior dX6_shaBlock_365 rfl ?_
      refine ks_ixor dX6_shaBlock_366 rfl ?_
      refine ks_iload_n dX6_shaBlock_367 rfl rfl ?_
      refine ks_bipush (x := 22) dX6_shaBlock_368 (by decide) rfl ?_
      refine ks_iushr dX6_shaBlock_370 rfl ?_
      refine ks_iload_n dX6_shaBlock_371 rfl rfl ?_
      refine ks_bipush (x := 10) dX6_shaBlock_372 (by decide) rfl ?_
      refine ks_ishl dX6_shaBlock_374 rfl ?_
      refine ks_ior dX6_shaBlock_375 rfl ?_
      refine ks_ixor dX6_shaBlock_376 rfl ?_
      refine ks_istore dX6_shaBlock_377 (by decide) rfl ?_
      refine ks_sub [(12, _), (11, _), (3, _), (4, _), (5, _), (6, _), (7, _), (8, _), (9, _), (10, _), (0, _), (13, _)] rfl ?_
      refine ks_iload dX6_shaBlock_379 rfl rfl ?_
      refine ks_iload_n dX6_shaBlock_381 rfl rfl ?_
      refine ks_iload dX6_shaBlock_382 rfl rfl ?_
      refine ks_iand dX6_shaBlock_384 rfl ?_
      refine ks_iload_n dX6_shaBlock_385 rfl rfl ?_
      refine ks_iload dX6_shaBlock_386 rfl rfl ?_
      refine ks_iand dX6_shaBlock_388 rfl ?_
      refine ks_ixor dX6_shaBlock_389 rfl ?_
      refine ks_iload dX6_shaBlock_390 rfl rfl ?_
      refine ks_iload dX6_shaBlock_392 rfl rfl ?_
      refine ks_iand dX6_shaBlock_394 rfl ?_
      refine ks_ixor dX6_shaBlock_395 rfl ?_
      refine ks_iadd dX6_shaBlock_396 rfl ?_
      refine ks_istore dX6_shaBlock_397 (by decide) rfl ?_
      refine ks_sub [(14, _), (11, _), (3, _), (4, _), (5, _), (6, _), (7, _), (8, _), (9, _), (10, _), (0, _), (12, _), (13, _)] rfl ?_
      refine ks_iload dX6_shaBlock_399 rfl rfl ?_
      refine ks_istore dX6_shaBlock_401 (by decide) rfl ?_
      refine ks_sub [(10, _), (11, _), (3, _), (4, _), (5, _), (6, _), (7, _), (8, _), (9, _), (0, _), (12, _), (13, _), (14, _)] rfl ?_
      refine ks_iload dX6_shaBlock_403 rfl rfl ?_
      refine ks_istore dX6_shaBlock_405 (by decide) rfl ?_
      refine ks_sub [(9, _), (11, _), (3, _), (4, _), (5, _), (6, _), (7, _), (8, _), (10, _), (0, _), (12, _), (13, _), (14, _)] rfl ?_
      refine ks_iload dX6_shaBlock_407 rfl rfl ?_
      refine ks_istore dX6_shaBlock_409 (by decide) rfl ?_
      refine ks_sub [(8, _), (11, _), (3, _), (4, _), (5, _), (6, _), (7, _), (9, _), (10, _), (0, _), (12, _), (13, _), (14, _)] rfl ?_
      refine ks_iload dX6_shaBlock_411 rfl rfl ?_
      refine ks_iload dX6_shaBlock_413 rfl rfl ?_
      refine ks_iadd dX6_shaBlock_415 rfl ?_
      refine ks_istore dX6_shaBlock_416 (by decide) rfl ?_
      refine ks_sub [(7, _), (11, _), (3, _), (4, _), (5, _), (6, _), (8, _), (9, _), (10, _), (0, _), (12, _), (13, _), (14, _)] rfl ?_
      refine ks_iload dX6_shaBlock_418 rfl rfl ?_
      refine ks_istore dX6_shaBlock_420 (by decide) rfl ?_
      refine ks_sub [(6, _), (11, _), (3, _), (4, _), (5, _), (7, _), (8, _), (9, _), (10, _), (0, _), (12, _), (13, _), (14, _)] rfl ?_
      refine ks_iload dX6_shaBlock_422 rfl rfl ?_
      refine ks_istore dX6_shaBlock_424 (by decide) rfl ?_
      refine ks_sub [(5, _), (11, _), (3, _), (4, _), (6, _), (7, _), (8, _), (9, _), (10, _), (0, _), (12, _), (13, _), (14, _)] rfl ?_
      refine ks_iload_n dX6_shaBlock_426 rfl rfl ?_
      refine ks_istore dX6_shaBlock_427 (by decide) rfl ?_
      refine ks_sub [(4, _), (11, _), (3, _), (5, _), (6, _), (7, _), (8, _), (9, _), (10, _), (0, _), (12, _), (13, _), (14, _)] rfl ?_
      refine ks_iload dX6_shaBlock_429 rfl rfl ?_
      refine ks_iload dX6_shaBlock_431 rfl rfl ?_
      refine ks_iadd dX6_shaBlock_433 rfl ?_
      refine ks_istore_n dX6_shaBlock_434 (by decide) rfl ?_
      refine ks_sub [(3, _), (11, _), (4, _), (5, _), (6, _), (7, _), (8, _), (9, _), (10, _), (0, _), (12, _), (13, _), (14, _)] rfl ?_
      refine ks_iinc (y := nI (q + 1)) dX6_shaBlock_435 rfl (ks_p1 q) (by decide) rfl ?_
      refine ks_goto (tgt := 269) dX6_shaBlock_438 (by decide) ?_
      exact ks_sub _ rfl (ih (q + 1) (by omega))
set_option maxRecDepth 100000 in
set_option maxHeartbeats 40000000 in
theorem l_shaWords {l : Launch} {G : ks_G} {d : Nat} {S : ks_S} {h st wo fr N i : Nat} {F f : Nat → Int32} {g : Nat → Nat} {r2 r3 r4 r5 : Value} (hh : S.2.2 h = some (.inr (9, [.ref st, .ref wo, r2, r3, r4, r5]))) (hs : S.2.2 st = some (kI 8 F)) (hw : S.2.2 wo = some (kI 64 f)) (hf : S.2.2 fr = some (kB N g)) (hg : kO g) (hi : i + 64 ≤ N) (hN : N < 2 ^ 30) (hK : ks_stOK S) (hsB : st < ks_B) (hwB : wo < ks_B) (n_st_wo : st ≠ wo) : ∀ k q, q + k = 48 → ks_X l G mX6_shaBlock d 76 [(3, .int (nI (16 + q))), (0, .ref h), (1, .ref fr), (2, .int (nI i))] [] (ks_set S wo (kI 64 (sh_ext (ks_upto (sh_B g i) f 16) q))) (sh_P S st wo F f g i) := by
  have n_h_wo : h ≠ wo := ks_ne hh hw (by intro e; cases e)
  have n_h_st : h ≠ st := ks_ne hh hs (by intro e; cases e)
  have n_fr_wo : fr ≠ wo := ks_ne hf hw (by intro e; cases e)
  have n_fr_st : fr ≠ st := ks_ne hf hs (by intro e; cases e)
  have n_wo_st : wo ≠ st := Ne.symm n_st_wo
  have n_K6_wo : ks_B + 6 ≠ wo := by omega
  have n_K6_st : ks_B + 6 ≠ st := by omega
  intro k
  induction k with
  | zero =>
    intro q hq
    refine ks_iload_n dX6_shaBlock_76 rfl rfl ?_
    refine ks_bipush (x := 64) dX6_shaBlock_77 (by decide) rfl ?_
    refine ks_icmp_ge (tgt := 201) dX6_shaBlock_79 (by decide) rfl (fun hc => ?_) (fun hc => ?_)
    · rw [show q = 48 by omega]
      refine ks_aload_n dX6_shaBlock_201 rfl rfl ?_
      refine ks_getf (T := TX6) (kf := 0) kx_81 rfl in_X6 cl_X6 (by decide) ((ks_set_ne _ _ n_h_wo).trans hh) rfl dX6_shaBlock_202 rfl ?_
      refine ks_iconst (x := 0) dX6_shaBlock_205 (by decide) rfl ?_
      refine ks_ialdN ((ks_set_ne _ _ n_st_wo).trans hs) (i := 0) rfl (by decide) (by decide) dX6_shaBlock_206 rfl ?_
      refine ks_istore_n dX6_shaBlock_207 (by decide) rfl ?_
      refine ks_sub [(3, _), (0, _), (1, _), (2, _)] rfl ?_
      refine ks_aload_n dX6_shaBlock_208 rfl rfl ?_
      refine ks_getf (T := TX6) (kf := 0) kx_81 rfl in_X6 cl_X6 (by decide) ((ks_set_ne _ _ n_h_wo).trans hh) rfl dX6_shaBlock_209 rfl ?_
      refine ks_iconst (x := 1) dX6_shaBlock_212 (by decide) rfl ?_
      refine ks_ialdN ((ks_set_ne _ _ n_st_wo).trans hs) (i := 1) rfl (by decide) (by decide) dX6_shaBlock_213 rfl ?_
      refine ks_istore dX6_shaBlock_214 (by decide) rfl ?_
      refine ks_sub [(4, _), (3, _), (0, _), (1, _), (2, _)] rfl ?_
      refine ks_aload_n dX6_shaBlock_216 rfl rfl ?_
      refine ks_getf (T := TX6) (kf := 0) kx_81 rfl in_X6 cl_X6 (by decide) ((ks_set_ne _ _ n_h_wo).trans hh) rfl dX6_shaBlock_217 rfl ?_
      refine ks_iconst (x := 2) dX6_shaBlock_220 (by decide) rfl ?_
      refine ks_ialdN ((ks_set_ne _ _ n_st_wo).trans hs) (i := 2) rfl (by decide) (by decide) dX6_shaBlock_221 rfl ?_
      refine ks_istore dX6_shaBlock_222 (by decide) rfl ?_
      refine ks_sub [(5, _), (3, _), (0, _), (1, _), (2, _), (4, _)] rfl ?_
      refine ks_aload_n dX6_shaBlock_224 rfl rfl ?_
      refine ks_getf (T := TX6) (kf := 0) kx_81 rfl in_X6 cl_X6 (by decide) ((ks_set_ne _ _ n_h_wo).trans hh) rfl dX6_shaBlock_225 rfl ?_
      refine ks_iconst (x := 3) dX6_shaBlock_228 (by decide) rfl ?_
      refine ks_ialdN ((ks_set_ne _ _ n_st_wo).trans hs) (i := 3) rfl (by decide) (by decide) dX6_shaBlock_229 rfl ?_
      refine ks_istore dX6_shaBlock_230 (by decide) rfl ?_
      refine ks_sub [(6, _), (3, _), (0, _), (1, _), (2, _), (4, _), (5, _)] rfl ?_
      refine ks_aload_n dX6_shaBlock_232 rfl rfl ?_
      refine ks_getf (T := TX6) (kf := 0) kx_81 rfl in_X6 cl_X6 (by decide) ((ks_set_ne _ _ n_h_wo).trans hh) rfl dX6_shaBlock_233 rfl ?_
      refine ks_iconst (x := 4) dX6_shaBlock_236 (by decide) rfl ?_
      refine ks_ialdN ((ks_set_ne _ _ n_st_wo).trans hs) (i := 4) rfl (by decide) (by decide) dX6_shaBlock_237 rfl ?_
      refine ks_istore dX6_shaBlock_238 (by decide) rfl ?_
      refine ks_sub [(7, _), (3, _), (0, _), (1, _), (2, _), (4, _), (5, _), (6, _)] rfl ?_
      refine ks_aload_n dX6_shaBlock_240 rfl rfl ?_
      refine ks_getf (T := TX6) (kf := 0) kx_81 rfl in_X6 cl_X6 (by decide) ((ks_set_ne _ _ n_h_wo).trans hh) rfl dX6_shaBlock_241 rfl ?_
      refine ks_iconst (x := 5) dX6_shaBlock_244 (by decide) rfl ?_
      refine ks_ialdN ((ks_set_ne _ _ n_st_wo).trans hs) (i := 5) rfl (by decide) (by decide) dX6_shaBlock_245 rfl ?_
      refine ks_istore dX6_shaBlock_246 (by decide) rfl ?_
      refine ks_sub [(8, _), (3, _), (0, _), (1, _), (2, _), (4, _), (5, _), (6, _), (7, _)] rfl ?_
      refine ks_aload_n dX6_shaBlock_248 rfl rfl ?_
      refine ks_getf (T := TX6) (kf := 0) kx_81 rfl in_X6 cl_X6 (by decide) ((ks_set_ne _ _ n_h_wo).trans hh) rfl dX6_shaBlock_249 rfl ?_
      refine ks_bipush (x := 6) dX6_shaBlock_252 (by decide) rfl ?_
      refine ks_ialdN ((ks_set_ne _ _ n_st_wo).trans hs) (i := 6) rfl (by decide) (by decide) dX6_shaBlock_254 rfl ?_
      refine ks_istore dX6_shaBlock_255 (by decide) rfl ?_
      refine ks_sub [(9, _), (3, _), (0, _), (1, _), (2, _), (4, _), (5, _), (6, _), (7, _), (8, _)] rfl ?_
      refine ks_aload_n dX6_shaBlock_257 rfl rfl ?_
      refine ks_getf (T := TX6) (kf := 0) kx_81 rfl in_X6 cl_X6 (by decide) ((ks_set_ne _ _ n_h_wo).trans hh) rfl dX6_shaBlock_258 rfl ?_
      refine ks_bipush (x := 7) dX6_shaBlock_261 (by decide) rfl ?_
      refine ks_ialdN ((ks_set_ne _ _ n_st_wo).trans hs) (i := 7) rfl (by decide) (by decide) dX6_shaBlock_263 rfl ?_
      refine ks_istore dX6_shaBlock_264 (by decide) rfl ?_
      refine ks_sub [(10, _), (3, _), (0, _), (1, _), (2, _), (4, _), (5, _), (6, _), (7, _), (8, _), (9, _)] rfl ?_
      refine ks_iconst (x := 0) dX6_shaBlock_266 (by decide) rfl ?_
      refine ks_istore dX6_shaBlock_267 (by decide) rfl ?_
      refine ks_sub [(11, _), (3, _), (0, _), (1, _), (2, _), (4, _), (5, _), (6, _), (7, _), (8, _), (9, _), (10, _)] rfl ?_
      exact ks_sub _ rfl (l_shaRounds hh hs hw hf hg hi hN hK hsB hwB n_st_wo _ rfl 64 0 rfl)
    · exact absurd (nI_le (a := 64) (by omega) (by omega)) hc
  | succ k ih =>
    intro q hq
    refine ks_iload_n dX6_shaBlock_76 rfl rfl ?_
    refine ks_bipush (x := 64) dX6_shaBlock_77 (by decide) rfl ?_
    refine ks_icmp_ge (tgt := 201) dX6_shaBlock_79 (by decide) rfl (fun hc => ?_) (fun hc => ?_)
    · exact absurd hc (nI_ge (b := 64) (by omega) (by decide))
    · refine ks_aload_n dX6_shaBlock_82 rfl rfl ?_
      refine ks_getf (T := TX6) (kf := 1) kx_82 rfl in_X6 cl_X6 (by decide) ((ks_set_ne _ _ n_h_wo).trans hh) rfl dX6_shaBlock_83 rfl ?_
      refine ks_iload_n dX6_shaBlock_86 rfl rfl ?_
      refine ks_bipush (x := 15) dX6_shaBlock_87 (by decide) rfl ?_
      refine ks_isub dX6_shaBlock_89 rfl ?_
      refine ks_ialdN (ks_set_same _ _ _) (i := q + 1) ((pk_sub (a := 16 + q) (b := 15) (by omega)).trans (congrArg nI (by omega))) (by omega) (by decide) dX6_shaBlock_90 rfl ?_
      refine ks_istore dX6_shaBlock_91 (by decide) rfl ?_
      refine ks_sub [(4, _), (3, _), (0, _), (1, _), (2, _)] rfl ?_
      refine ks_aload_n dX6_shaBlock_93 rfl rfl ?_
      refine ks_getf (T := TX6) (kf := 1) kx_82 rfl in_X6 cl_X6 (by decide) ((ks_set_ne _ _ n_h_wo).trans hh) rfl dX6_shaBlock_94 rfl ?_
      refine ks_iload_n dX6_shaBlock_97 rfl rfl ?_
      refine ks_iconst (x := 2) dX6_shaBlock_98 (by decide) rfl ?_
      refine ks_isub dX6_shaBlock_99 rfl ?_
      refine ks_ialdN (ks_set_same _ _ _) (i := q + 14) ((pk_sub (a := 16 + q) (b := 2) (by omega)).trans (congrArg nI (by omega))) (by omega) (by decide) dX6_shaBlock_100 rfl ?_
      refine ks_istore dX6_shaBlock_101 (by decide) rfl ?_
      refine ks_sub [(5, _), (3, _), (0, _), (1, _), (2, _), (4, _)] rfl ?_
      refine ks_iload dX6_shaBlock_103 rfl rfl ?_
      refine ks_bipush (x := 7) dX6_shaBlock_105 (by decide) rfl ?_
      refine ks_iushr dX6_shaBlock_107 rfl ?_
      refine ks_iload dX6_shaBlock_108 rfl rfl ?_
      refine ks_bipush (x := 25) dX6_shaBlock_110 (by decide) rfl ?_
      refine ks_ishl dX6_shaBlock_112 rfl ?_
      refine ks_ior dX6_shaBlock_113 rfl ?_
      refine ks_iload dX6_shaBlock_114 rfl rfl ?_
      refine ks_bipush (x := 18) dX6_shaBlock_116 (by decide) rfl ?_
      refine ks_iushr dX6_shaBlock_118 rfl ?_
      refine ks_iload dX6_shaBlock_119 rfl rfl ?_
      refine ks_bipush (x := 14) dX6_shaBlock_121 (by decide) rfl ?_
      refine ks_ishl dX6_shaBlock_123 rfl ?_
      refine ks_ior dX6_shaBlock_124 rfl ?_
      refine ks_ixor dX6_shaBlock_125 rfl ?_
      refine ks_iload dX6_shaBlock_126 rfl rfl ?_
      refine ks_iconst (x := 3) dX6_shaBlock_128 (by decide) rfl ?_
      refine ks_iushr dX6_shaBlock_129 rfl ?_
      refine ks_ixor dX6_shaBlock_130 rfl ?_
      refine ks_istore dX6_shaBlock_131 (by decide) rfl ?_
      refine ks_sub [(6, _), (3, _), (0, _), (1, _), (2, _), (4, _), (5, _)] rfl ?_
      refine ks_iload dX6_shaBlock_133 rfl rfl ?_
      refine ks_bipush (x := 17) dX6_shaBlock_135 (by decide) rfl ?_
      refine ks_iushr dX6_shaBlock_137 rfl ?_
      refine ks_iload dX6_shaBlock_138 rfl rfl ?_
      refine ks_bipush (x := 15) dX6_shaBlock_140 (by decide) rfl ?_
      refine ks_ishl dX6_shaBlock_142 rfl ?_
      refine ks_ior dX6_shaBlock_143 rfl ?_
      refine ks_iload dX6_shaBlock_144 rfl rfl ?_
      refine ks_bipush (x := 19) dX6_shaBlock_146 (by decide) rfl ?_
      refine ks_iushr dX6_shaBlock_148 rfl ?_
      refine ks_iload dX6_shaBlock_149 rfl rfl ?_
      refine ks_bipush (x := 13) dX6_shaBlock_151 (by decide) rfl ?_
      refine ks_ishl dX6_shaBlock_153 rfl ?_
      refine ks_ior dX6_shaBlock_154 rfl ?_
      refine ks_ixor dX6_shaBlock_155 rfl ?_
      refine ks_iload dX6_shaBlock_156 rfl rfl ?_
      refine ks_bipush (x := 10) dX6_shaBlock_158 (by decide) rfl ?_
      refine ks_iushr dX6_shaBlock_160 rfl ?_
      refine ks_ixor dX6_shaBlock_161 rfl ?_
      refine ks_istore dX6_shaBlock_162 (by decide) rfl ?_
      refine ks_sub [(7, _), (3, _), (0, _), (1, _), (2, _), (4, _), (5, _), (6, _)] rfl ?_
      refine ks_aload_n dX6_shaBlock_164 rfl rfl ?_
      refine ks_getf (T := TX6) (kf := 1) kx_82 rfl in_X6 cl_X6 (by decide) ((ks_set_ne _ _ n_h_wo).trans hh) rfl dX6_shaBlock_165 rfl ?_
      refine ks_iload_n dX6_shaBlock_168 rfl rfl ?_
      refine ks_aload_n dX6_shaBlock_169 rfl rfl ?_
      refine ks_getf (T := TX6) (kf := 1) kx_82 rfl in_X6 cl_X6 (by decide) ((ks_set_ne _ _ n_h_wo).trans hh) rfl dX6_shaBlock_170 rfl ?_
      refine ks_iload_n dX6_shaBlock_173 rfl rfl ?_
      refine ks_bipush (x := 16) dX6_shaBlock_174 (by decide) rfl ?_
      refine ks_isub dX6_shaBlock_176 rfl ?_
      refine ks_ialdN (ks_set_same _ _ _) (i := q) ((pk_sub (a := 16 + q) (b := 16) (by omega)).trans (congrArg nI (by omega))) (by omega) (by decide) dX6_shaBlock_177 rfl ?_
      refine ks_iload dX6_shaBlock_178 rfl rfl ?_
      refine ks_iadd dX6_shaBlock_180 rfl ?_
      refine ks_aload_n dX6_shaBlock_181 rfl rfl ?_
      refine ks_getf (T := TX6) (kf := 1) kx_82 rfl in_X6 cl_X6 (by decide) ((ks_set_ne _ _ n_h_wo).trans hh) rfl dX6_shaBlock_182 rfl ?_
      refine ks_iload_n dX6_shaBlock_185 rfl rfl ?_
      refine ks_bipush (x := 7) dX6_shaBlock_186 (by decide) rfl ?_
      refine ks_isub dX6_shaBlock_188 rfl ?_
      refine ks_ialdN (ks_set_same _ _ _) (i := q + 9) ((pk_sub (a := 16 + q) (b := 7) (by omega)).trans (congrArg nI (by omega))) (by omega) (by decide) dX6_shaBlock_189 rfl ?_
      refine ks_iadd dX6_shaBlock_190 rfl ?_
      refine ks_iload dX6_shaBlock_191 rfl rfl ?_
      refine ks_iadd dX6_shaBlock_193 rfl ?_
      refine ks_iastN hwB (ks_set_same _ _ _) (i := 16 + q) rfl (by omega) (by decide) dX6_shaBlock_194 rfl ?_
      refine ks_iinc (y := nI (16 + (q + 1))) dX6_shaBlock_195 rfl (ks_p1 (16 + q)) (by decide) rfl ?_
      refine ks_goto (tgt := 76) dX6_shaBlock_198 (by decide) ?_
      refine ks_tS (by rw [ks_set_set]) ?_
      exact ks_sub _ rfl (ih (q + 1) (by omega))
set_option maxRecDepth 100000 in
set_option maxHeartbeats 40000000 in
theorem l_shaLoad {l : Launch} {G : ks_G} {d : Nat} {S : ks_S} {h st wo fr N i : Nat} {F f : Nat → Int32} {g : Nat → Nat} {r2 r3 r4 r5 : Value} (hh : S.2.2 h = some (.inr (9, [.ref st, .ref wo, r2, r3, r4, r5]))) (hs : S.2.2 st = some (kI 8 F)) (hw : S.2.2 wo = some (kI 64 f)) (hf : S.2.2 fr = some (kB N g)) (hg : kO g) (hi : i + 64 ≤ N) (hN : N < 2 ^ 30) (hK : ks_stOK S) (hsB : st < ks_B) (hwB : wo < ks_B) (n_st_wo : st ≠ wo) : ∀ k q, q + k = 16 → ks_X l G mX6_shaBlock d 2 [(3, .int (nI q)), (0, .ref h), (1, .ref fr), (2, .int (nI i))] [] (ks_set S wo (kI 64 (ks_upto (sh_B g i) f q))) (sh_P S st wo F f g i) := by
  have n_h_wo : h ≠ wo := ks_ne hh hw (by intro e; cases e)
  have n_h_st : h ≠ st := ks_ne hh hs (by intro e; cases e)
  have n_fr_wo : fr ≠ wo := ks_ne hf hw (by intro e; cases e)
  have n_fr_st : fr ≠ st := ks_ne hf hs (by intro e; cases e)
  have n_wo_st : wo ≠ st := Ne.symm n_st_wo
  have n_K6_wo : ks_B + 6 ≠ wo := by omega
  have n_K6_st : ks_B + 6 ≠ st := by omega
  intro k
  induction k with
  | zero =>
    intro q hq
    refine ks_iload_n dX6_shaBlock_2 rfl rfl ?_
    refine ks_bipush (x := 16) dX6_shaBlock_3 (by decide) rfl ?_
    refine ks_icmp_ge (tgt := 73) dX6_shaBlock_5 (by decide) rfl (fun hc => ?_) (fun hc => ?_)
    · rw [show q = 16 by omega]
      refine ks_bipush (x := 16) dX6_shaBlock_73 (by decide) rfl ?_
      refine ks_istore_n dX6_shaBlock_75 (by decide) rfl ?_
      refine ks_sub [(3, _), (0, _), (1, _), (2, _)] rfl ?_
      exact ks_sub _ rfl (l_shaWords hh hs hw hf hg hi hN hK hsB hwB n_st_wo 48 0 rfl)
    · exact absurd (nI_le (a := 16) (by omega) (by omega)) hc
  | succ k ih =>
    intro q hq
    refine ks_iload_n dX6_shaBlock_2 rfl rfl ?_
    refine ks_bipush (x := 16) dX6_shaBlock_3 (by decide) rfl ?_
    refine ks_icmp_ge (tgt := 73) dX6_shaBlock_5 (by decide) rfl (fun hc => ?_) (fun hc => ?_)
    · exact absurd hc (nI_ge (b := 16) (by omega) (by decide))
    · refine ks_iload_n dX6_shaBlock_8 rfl rfl ?_
      refine ks_iconst (x := 4) dX6_shaBlock_9 (by decide) rfl ?_
      refine ks_iload_n dX6_shaBlock_10 rfl rfl ?_
      refine ks_imul dX6_shaBlock_11 rfl ?_
      refine ks_iadd dX6_shaBlock_12 rfl ?_
      refine ks_ti (y := nI (i + 4 * q)) (by rw [show (4 : Int32) = nI 4 from rfl, pk_mul, nI_add]) ?_
      refine ks_istore dX6_shaBlock_13 (by decide) rfl ?_
      refine ks_sub [(4, _), (3, _), (0, _), (1, _), (2, _)] rfl ?_
      refine ks_aload_n dX6_shaBlock_15 rfl rfl ?_
      refine ks_getf (T := TX6) (kf := 1) kx_82 rfl in_X6 cl_X6 (by decide) ((ks_set_ne _ _ n_h_wo).trans hh) rfl dX6_shaBlock_16 rfl ?_
      refine ks_iload_n dX6_shaBlock_19 rfl rfl ?_
      refine ks_aload_n dX6_shaBlock_20 rfl rfl ?_
      refine ks_iload dX6_shaBlock_21 rfl rfl ?_
      refine ks_baldB ((ks_set_ne _ _ n_fr_wo).trans hf) rfl (by omega) (by omega) dX6_shaBlock_23 rfl ?_
      refine ks_bipush (x := 24) dX6_shaBlock_24 (by decide) rfl ?_
      refine ks_ishl dX6_shaBlock_26 rfl ?_
      refine ks_aload_n dX6_shaBlock_27 rfl rfl ?_
      refine ks_iload dX6_shaBlock_28 rfl rfl ?_
      refine ks_iconst (x := 1) dX6_shaBlock_30 (by decide) rfl ?_
      refine ks_iadd dX6_shaBlock_31 rfl ?_
      refine ks_baldB ((ks_set_ne _ _ n_fr_wo).trans hf) (nI_add (i + 4 * q) 1) (by omega) (by omega) dX6_shaBlock_32 rfl ?_
      refine ks_sipush (x := 255) dX6_shaBlock_33 (by decide) rfl ?_
      refine ks_iand dX6_shaBlock_36 rfl ?_
      refine ks_bipush (x := 16) dX6_shaBlock_37 (by decide) rfl ?_
      refine ks_ishl dX6_shaBlock_39 rfl ?_
      refine ks_ior dX6_shaBlock_40 rfl ?_
      refine ks_aload_n dX6_shaBlock_41 rfl rfl ?_
      refine ks_iload dX6_shaBlock_42 rfl rfl ?_
      refine ks_iconst (x := 2) dX6_shaBlock_44 (by decide) rfl ?_
      refine ks_iadd dX6_shaBlock_45 rfl ?_
      refine ks_baldB ((ks_set_ne _ _ n_fr_wo).trans hf) (nI_add (i + 4 * q) 2) (by omega) (by omega) dX6_shaBlock_46 rfl ?_
      refine ks_sipush (x := 255) dX6_shaBlock_47 (by decide) rfl ?_
      refine ks_iand dX6_shaBlock_50 rfl ?_
      refine ks_bipush (x := 8) dX6_shaBlock_51 (by decide) rfl ?_
      refine ks_ishl dX6_shaBlock_53 rfl ?_
      refine ks_ior dX6_shaBlock_54 rfl ?_
      refine ks_aload_n dX6_shaBlock_55 rfl rfl ?_
      refine ks_iload dX6_shaBlock_56 rfl rfl ?_
      refine ks_iconst (x := 3) dX6_shaBlock_58 (by decide) rfl ?_
      refine ks_iadd dX6_shaBlock_59 rfl ?_
      refine ks_baldB ((ks_set_ne _ _ n_fr_wo).trans hf) (nI_add (i + 4 * q) 3) (by omega) (by omega) dX6_shaBlock_60 rfl ?_
      refine ks_sipush (x := 255) dX6_shaBlock_61 (by decide) rfl ?_
      refine ks_iand dX6_shaBlock_64 rfl ?_
      refine ks_ior dX6_shaBlock_65 rfl ?_
      refine ks_ti (y := sh_B g i q) (ks_be4_eq hg _) ?_
      refine ks_iastN hwB (ks_set_same _ _ _) rfl (by omega) (by decide) dX6_shaBlock_66 rfl ?_
      refine ks_iinc (y := nI (q + 1)) dX6_shaBlock_67 rfl (ks_p1 q) (by decide) rfl ?_
      refine ks_goto (tgt := 2) dX6_shaBlock_70 (by decide) ?_
      refine ks_tS (by rw [ks_set_set, ks_upto_s]) ?_
      exact ks_sub _ rfl (ih (q + 1) (by omega))
set_option maxRecDepth 100000 in
set_option maxHeartbeats 40000000 in
theorem c_shaBlock {l : Launch} {G : ks_G} {d : Nat} {S : ks_S} {h st wo fr N i : Nat} {F f : Nat → Int32} {g : Nat → Nat} {r2 r3 r4 r5 : Value} (hh : S.2.2 h = some (.inr (9, [.ref st, .ref wo, r2, r3, r4, r5]))) (hs : S.2.2 st = some (kI 8 F)) (hw : S.2.2 wo = some (kI 64 f)) (hf : S.2.2 fr = some (kB N g)) (hg : kO g) (hi : i + 64 ≤ N) (hN : N < 2 ^ 30) (hK : ks_stOK S) (hsB : st < ks_B) (hwB : wo < ks_B) (n_st_wo : st ≠ wo) : ks_P l G yX6_shaBlock mX6_shaBlock d [.ref h, .ref fr, .int (nI i)] S (fun r S' => r = none ∧ ks_up S S' [wo, st] ∧ (∃ w2, S'.2.2 wo = some (kI 64 w2)) ∧ S'.2.2 st = some (kI 8 (sh_blk F g i))) := by
  refine ks_of (by decide) rfl rfl (Nat.le_of_ble_eq_true rfl) ?_
  show ks_X l G mX6_shaBlock d 0 [(0, .ref h), (1, .ref fr), (2, .int (nI i))] [] S _
  refine ks_iconst (x := 0) dX6_shaBlock_0 (by decide) rfl ?_
  refine ks_istore_n dX6_shaBlock_1 (by decide) rfl ?_
  refine ks_sub [(3, _), (0, _), (1, _), (2, _)] rfl ?_
  have h9 := l_shaLoad (l := l) (G := G) (d := d) hh hs hw hf hg hi hN hK hsB hwB n_st_wo 16 0 rfl
  rw [ks_upto_0, ks_set_id S hw] at h9
  refine ks_sub _ rfl (h9.mono ?_)
  intro r S' hr
  refine ⟨hr.1, ?_⟩
  have e1 := hr.2
  have e2 : sh_fin F (sh_rd sh_K (sh_ext (ks_upto (sh_B g i) f 16) 48) (sh_t F) 64) = sh_blk F g i := by
    unfold sh_blk
    rw [sh_rd_congr 64 (fun j hj => sh_ext_congr (fun j hj => by unfold ks_upto; rw [if_pos hj]) 48 j (by omega))]
  rw [e2] at e1
  subst e1
  exact ⟨((ks_up_set S _ (by simp)).trans (ks_up_set _ _ (by simp))), ⟨_, (ks_set_ne _ _ (Ne.symm n_st_wo)).trans (ks_set_same _ _ _)⟩, ks_set_same _ _ _⟩
