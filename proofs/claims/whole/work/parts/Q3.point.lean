/-! THE REFERENCE: a new point; the numbers that operations need -/
set_option maxRecDepth 100000 in
set_option maxHeartbeats 800000 in
theorem c_pn_init {l : Launch} {G : ks_G} {d : Nat} {S : ks_S} {P : Nat} (hb : S.2.2 P = some (.inr (17, [.null, .null, .null]))) (hS1 : S.1 = P + 1) (hB : P + 10 < ks_B) : ks_P l G yX14_init mX14_init (d + 1) [.ref P] S (fun z S' => z = none ∧ S'.1 = P + 4 ∧ S'.2.1 = S.2.1 + 24 ∧ (∀ a, a < P ∨ P + 3 < a → S'.2.2 a = S.2.2 a) ∧ S'.2.2 P = some (.inr (17, [.ref (P + 1), .ref (P + 2), .ref (P + 3)])) ∧ (∀ r, r < 3 → S'.2.2 (P + 1 + r) = some (kN 8 (fun _ => 0)))) := by
  refine ks_of (by decide) rfl rfl (Nat.le_of_ble_eq_true rfl) ?_
  show ks_X l G mX14_init (d + 1) 0 [(0, .ref P)] [] S _
  refine ks_aload_n dX14_init_0 rfl rfl ?_
  refine ks_objInit kx_1791 kx_43 kx_44 (by omega) (by decide) dX14_init_1 rfl ?_
  refine ks_aload_n dX14_init_4 rfl rfl ?_
  refine ks_bipush (x := nI 8) dX14_init_5 (by decide) rfl ?_
  refine ks_newNx (N := 8) (x := P + 1) hS1 kx_100 (by decide) (by omega) dX14_init_7 rfl (fun T1 q1 => ?_)
  refine ks_putF (T := TX14) (kf := 0) kx_1792 rfl rfl rfl in_X14 tyX14_ok nmX14 cl_X14 (by decide) ((q1.2.2.2 _ (by omega)).trans hb) (Nat.le_of_ble_eq_true rfl) rfl rfl rfl rfl dX14_init_9 rfl ?_
  refine ks_aload_n dX14_init_12 rfl rfl ?_
  refine ks_bipush (x := nI 8) dX14_init_13 (by decide) rfl ?_
  refine ks_newNx (N := 8) (x := P + 2) q1.1 kx_100 (by decide) (by omega) dX14_init_15 rfl (fun T2 q2 => ?_)
  refine ks_putF (T := TX14) (kf := 1) kx_1794 rfl rfl rfl in_X14 tyX14_ok nmX14 cl_X14 (by decide) ((q2.2.2.2 _ (by omega)).trans (ks_set_same _ _ _)) (Nat.le_of_ble_eq_true rfl) rfl rfl rfl rfl dX14_init_17 rfl ?_
  refine ks_aload_n dX14_init_20 rfl rfl ?_
  refine ks_bipush (x := nI 8) dX14_init_21 (by decide) rfl ?_
  refine ks_newNx (N := 8) (x := P + 3) q2.1 kx_100 (by decide) (by omega) dX14_init_23 rfl (fun T3 q3 => ?_)
  refine ks_putF (T := TX14) (kf := 2) kx_1796 rfl rfl rfl in_X14 tyX14_ok nmX14 cl_X14 (by decide) ((q3.2.2.2 _ (by omega)).trans (ks_set_same _ _ _)) (Nat.le_of_ble_eq_true rfl) rfl rfl rfl rfl dX14_init_25 rfl ?_
  refine ks_ret rfl dX14_init_28 ?_
  have e1 : T1.2.1 = S.2.1 + 8 := q1.2.1
  have e2 : T2.2.1 = T1.2.1 + 8 := q2.2.1
  have e3 : T3.2.1 = T2.2.1 + 8 := q3.2.1
  refine ⟨rfl, q3.1, by show T3.2.1 = _; omega, fun a9 ha => ((ks_set_ne _ _ (by omega)).trans ((q3.2.2.2 _ (by omega)).trans ((ks_set_ne _ _ (by omega)).trans ((q2.2.2.2 _ (by omega)).trans ((ks_set_ne _ _ (by omega)).trans ((q1.2.2.2 _ (by omega)).trans rfl)))))), (ks_set_same _ _ _), fun r hr => ?_⟩
  rcases r with _ | _ | _ | r
  · exact ((ks_set_ne _ _ (by omega)).trans ((q3.2.2.2 _ (by omega)).trans ((ks_set_ne _ _ (by omega)).trans ((q2.2.2.2 _ (by omega)).trans ((ks_set_ne _ _ (by omega)).trans q1.2.2.1)))))
  · exact ((ks_set_ne _ _ (by omega)).trans ((q3.2.2.2 _ (by omega)).trans ((ks_set_ne _ _ (by omega)).trans q2.2.2.1)))
  · exact ((ks_set_ne _ _ (by omega)).trans q3.2.2.1)
  · omega
def fl_N : List (Nat × Nat) := [(0, 1), (1, 0), (2, 1), (3, 0), (4, 2), (5, 2), (6, 3), (7, 4), (8, 6), (9, 4), (10, 1), (11, 0), (12, 1), (13, 1), (14, 2), (15, 2), (16, 2), (17, 2), (18, 3), (19, 2), (20, 2)]
theorem fl_Nr : kN 21 (fil (fun _ => 0) fl_N) = kN 21 nedR := by
  have e1 : fil (fun _ => 0) fl_N = nedR := by
    rw [lst_z 21, fil_lst fl_N _ (by decide +kernel), show fl_N.foldl (fun L p => L.set p.1 p.2) (List.replicate 21 0) = [1, 0, 1, 0, 2, 2, 3, 4, 6, 4, 1, 0, 1, 1, 2, 2, 2, 2, 3, 2, 2] from by decide +kernel]
    rfl
  rw [e1]
set_option maxRecDepth 100000 in
set_option maxHeartbeats 3200000 in
theorem l_inN {l : Launch} {G : ks_G} {d : Nat} {S : ks_S} (h9 : S.2.2 369 = some (kN 21 (fun _ => 0))) {P9 : Option Value → ks_S → Prop} (hk : ∀ S1 : ks_S, ks_up S S1 [369] → S1.2.2 369 = some (kN 21 nedR) → ks_X l G mX16_init d 2566 [(0, .ref 290)] [.ref 369, .ref 290] S1 P9) : ks_X l G mX16_init d 2466 [(0, .ref 290)] [.ref 369, .ref 290] S P9 := by
  have u0 : ks_up S S [369] := ks_up.rf _ _
  refine ks_dup dX16_init_2466 rfl rfl ?_
  refine ks_iconst (x := nI 0) dX16_init_2467 (by decide) rfl ?_
  refine ks_iconst (x := nI 1) dX16_init_2468 (by decide) rfl ?_
  refine ks_iastNN (i := 0) (v := 1) (by decide) h9 (by decide) (by decide) dX16_init_2469 rfl ?_
  refine ks_dup dX16_init_2470 rfl rfl ?_
  refine ks_iconst (x := nI 1) dX16_init_2471 (by decide) rfl ?_
  refine ks_iconst (x := nI 0) dX16_init_2472 (by decide) rfl ?_
  refine ks_iastNN (i := 1) (v := 0) (by decide) (ks_set_same _ _ _) (by decide) (by decide) dX16_init_2473 rfl ?_
  refine ks_dup dX16_init_2474 rfl rfl ?_
  refine ks_iconst (x := nI 2) dX16_init_2475 (by decide) rfl ?_
  refine ks_iconst (x := nI 1) dX16_init_2476 (by decide) rfl ?_
  refine ks_iastNN (i := 2) (v := 1) (by decide) (ks_set_same _ _ _) (by decide) (by decide) dX16_init_2477 rfl ?_
  refine ks_dup dX16_init_2478 rfl rfl ?_
  refine ks_iconst (x := nI 3) dX16_init_2479 (by decide) rfl ?_
  refine ks_iconst (x := nI 0) dX16_init_2480 (by decide) rfl ?_
  refine ks_iastNN (i := 3) (v := 0) (by decide) (ks_set_same _ _ _) (by decide) (by decide) dX16_init_2481 rfl ?_
  refine ks_dup dX16_init_2482 rfl rfl ?_
  refine ks_iconst (x := nI 4) dX16_init_2483 (by decide) rfl ?_
  refine ks_iconst (x := nI 2) dX16_init_2484 (by decide) rfl ?_
  refine ks_iastNN (i := 4) (v := 2) (by decide) (ks_set_same _ _ _) (by decide) (by decide) dX16_init_2485 rfl ?_
  refine ks_dup dX16_init_2486 rfl rfl ?_
  refine ks_iconst (x := nI 5) dX16_init_2487 (by decide) rfl ?_
  refine ks_iconst (x := nI 2) dX16_init_2488 (by decide) rfl ?_
  refine ks_iastNN (i := 5) (v := 2) (by decide) (ks_set_same _ _ _) (by decide) (by decide) dX16_init_2489 rfl ?_
  refine ks_dup dX16_init_2490 rfl rfl ?_
  refine ks_bipush (x := nI 6) dX16_init_2491 (by decide) rfl ?_
  refine ks_iconst (x := nI 3) dX16_init_2493 (by decide) rfl ?_
  refine ks_iastNN (i := 6) (v := 3) (by decide) (ks_set_same _ _ _) (by decide) (by decide) dX16_init_2494 rfl ?_
  refine ks_dup dX16_init_2495 rfl rfl ?_
  refine ks_bipush (x := nI 7) dX16_init_2496 (by decide) rfl ?_
  refine ks_iconst (x := nI 4) dX16_init_2498 (by decide) rfl ?_
  refine ks_iastNN (i := 7) (v := 4) (by decide) (ks_set_same _ _ _) (by decide) (by decide) dX16_init_2499 rfl ?_
  refine ks_dup dX16_init_2500 rfl rfl ?_
  refine ks_bipush (x := nI 8) dX16_init_2501 (by decide) rfl ?_
  refine ks_bipush (x := nI 6) dX16_init_2503 (by decide) rfl ?_
  refine ks_iastNN (i := 8) (v := 6) (by decide) (ks_set_same _ _ _) (by decide) (by decide) dX16_init_2505 rfl ?_
  refine ks_dup dX16_init_2506 rfl rfl ?_
  refine ks_bipush (x := nI 9) dX16_init_2507 (by decide) rfl ?_
  refine ks_iconst (x := nI 4) dX16_init_2509 (by decide) rfl ?_
  refine ks_iastNN (i := 9) (v := 4) (by decide) (ks_set_same _ _ _) (by decide) (by decide) dX16_init_2510 rfl ?_
  refine ks_dup dX16_init_2511 rfl rfl ?_
  refine ks_bipush (x := nI 10) dX16_init_2512 (by decide) rfl ?_
  refine ks_iconst (x := nI 1) dX16_init_2514 (by decide) rfl ?_
  refine ks_iastNN (i := 10) (v := 1) (by decide) (ks_set_same _ _ _) (by decide) (by decide) dX16_init_2515 rfl ?_
  refine ks_dup dX16_init_2516 rfl rfl ?_
  refine ks_bipush (x := nI 11) dX16_init_2517 (by decide) rfl ?_
  refine ks_iconst (x := nI 0) dX16_init_2519 (by decide) rfl ?_
  refine ks_iastNN (i := 11) (v := 0) (by decide) (ks_set_same _ _ _) (by decide) (by decide) dX16_init_2520 rfl ?_
  refine ks_dup dX16_init_2521 rfl rfl ?_
  refine ks_bipush (x := nI 12) dX16_init_2522 (by decide) rfl ?_
  refine ks_iconst (x := nI 1) dX16_init_2524 (by decide) rfl ?_
  refine ks_iastNN (i := 12) (v := 1) (by decide) (ks_set_same _ _ _) (by decide) (by decide) dX16_init_2525 rfl ?_
  refine ks_dup dX16_init_2526 rfl rfl ?_
  refine ks_bipush (x := nI 13) dX16_init_2527 (by decide) rfl ?_
  refine ks_iconst (x := nI 1) dX16_init_2529 (by decide) rfl ?_
  refine ks_iastNN (i := 13) (v := 1) (by decide) (ks_set_same _ _ _) (by decide) (by decide) dX16_init_2530 rfl ?_
  refine ks_dup dX16_init_2531 rfl rfl ?_
  refine ks_bipush (x := nI 14) dX16_init_2532 (by decide) rfl ?_
  refine ks_iconst (x := nI 2) dX16_init_2534 (by decide) rfl ?_
  refine ks_iastNN (i := 14) (v := 2) (by decide) (ks_set_same _ _ _) (by decide) (by decide) dX16_init_2535 rfl ?_
  refine ks_dup dX16_init_2536 rfl rfl ?_
  refine ks_bipush (x := nI 15) dX16_init_2537 (by decide) rfl ?_
  refine ks_iconst (x := nI 2) dX16_init_2539 (by decide) rfl ?_
  refine ks_iastNN (i := 15) (v := 2) (by decide) (ks_set_same _ _ _) (by decide) (by decide) dX16_init_2540 rfl ?_
  refine ks_dup dX16_init_2541 rfl rfl ?_
  refine ks_bipush (x := nI 16) dX16_init_2542 (by decide) rfl ?_
  refine ks_iconst (x := nI 2) dX16_init_2544 (by decide) rfl ?_
  refine ks_iastNN (i := 16) (v := 2) (by decide) (ks_set_same _ _ _) (by decide) (by decide) dX16_init_2545 rfl ?_
  refine ks_dup dX16_init_2546 rfl rfl ?_
  refine ks_bipush (x := nI 17) dX16_init_2547 (by decide) rfl ?_
  refine ks_iconst (x := nI 2) dX16_init_2549 (by decide) rfl ?_
  refine ks_iastNN (i := 17) (v := 2) (by decide) (ks_set_same _ _ _) (by decide) (by decide) dX16_init_2550 rfl ?_
  refine ks_dup dX16_init_2551 rfl rfl ?_
  refine ks_bipush (x := nI 18) dX16_init_2552 (by decide) rfl ?_
  refine ks_iconst (x := nI 3) dX16_init_2554 (by decide) rfl ?_
  refine ks_iastNN (i := 18) (v := 3) (by decide) (ks_set_same _ _ _) (by decide) (by decide) dX16_init_2555 rfl ?_
  refine ks_dup dX16_init_2556 rfl rfl ?_
  refine ks_bipush (x := nI 19) dX16_init_2557 (by decide) rfl ?_
  refine ks_iconst (x := nI 2) dX16_init_2559 (by decide) rfl ?_
  refine ks_iastNN (i := 19) (v := 2) (by decide) (ks_set_same _ _ _) (by decide) (by decide) dX16_init_2560 rfl ?_
  refine ks_nm (fun T1 e9 => ?_)
  have v1 : ks_up S T1 [369] := by rw [e9]; exact ks_upL (ks_upL (ks_upL (ks_upL (ks_upL (ks_upL (ks_upL (ks_upL (ks_upL (ks_upL (ks_upL (ks_upL (ks_upL (ks_upL (ks_upL (ks_upL (ks_upL (ks_upL (ks_upL (ks_up_set _ _ (List.mem_singleton.mpr rfl)) (List.mem_singleton.mpr rfl)) (List.mem_singleton.mpr rfl)) (List.mem_singleton.mpr rfl)) (List.mem_singleton.mpr rfl)) (List.mem_singleton.mpr rfl)) (List.mem_singleton.mpr rfl)) (List.mem_singleton.mpr rfl)) (List.mem_singleton.mpr rfl)) (List.mem_singleton.mpr rfl)) (List.mem_singleton.mpr rfl)) (List.mem_singleton.mpr rfl)) (List.mem_singleton.mpr rfl)) (List.mem_singleton.mpr rfl)) (List.mem_singleton.mpr rfl)) (List.mem_singleton.mpr rfl)) (List.mem_singleton.mpr rfl)) (List.mem_singleton.mpr rfl)) (List.mem_singleton.mpr rfl)) (List.mem_singleton.mpr rfl)
  have f1 : T1.2.2 369 = some (kN 21 (fil (fun _ => 0) (fl_N.take 20))) := by rw [e9]; exact ks_set_same _ _ _
  clear e9
  have u1 := u0.trans v1
  refine ks_dup dX16_init_2561 rfl rfl ?_
  refine ks_bipush (x := nI 20) dX16_init_2562 (by decide) rfl ?_
  refine ks_iconst (x := nI 2) dX16_init_2564 (by decide) rfl ?_
  refine ks_iastNN (i := 20) (v := 2) (by decide) f1 (by decide) (by decide) dX16_init_2565 rfl ?_
  refine ks_nm (fun T2 e9 => ?_)
  have v2 : ks_up T1 T2 [369] := by rw [e9]; exact ks_up_set _ _ (List.mem_singleton.mpr rfl)
  have f2 : T2.2.2 369 = some (kN 21 (fil (fun _ => 0) (fl_N.take 21))) := by rw [e9]; exact ks_set_same _ _ _
  clear e9
  have u2 := u1.trans v2
  refine hk _ u2 ?_
  rw [f2, show fl_N.take 21 = fl_N from by decide +kernel, fl_Nr]
