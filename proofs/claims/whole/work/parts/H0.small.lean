/-! THE REFERENCE: small ones -/
set_option maxRecDepth 100000 in
set_option maxHeartbeats 800000 in
theorem c_md_alike {l : Launch} {G : ks_G} {d : Nat} {S : ks_S} {x y Nx Ny i k n : Nat} {gx gy : Nat → Nat} (hx : S.2.2 x = some (kB Nx gx)) (kx9 : kO gx) (hy : S.2.2 y = some (kB Ny gy)) (ky9 : kO gy) (hi : i + n ≤ Nx) (hk : k + n ≤ Ny) (hNx : Nx < 2 ^ 28) (hNy : Ny < 2 ^ 28) : ks_P l G yX16_alike mX16_alike d [.ref x, .int (nI i), .ref y, .int (nI k), .int (nI n)] S (fun z S' => z = some (.int (ks_bo (decide (∀ j, j < n → gx (i + j) = gy (k + j))))) ∧ S' = S) := by
  have loop : ∀ (u q : Nat), q + u = n → (∀ j, j < q → gx (i + j) = gy (k + j)) → ks_X l G mX16_alike d 3 [(0, .ref x), (1, .int (nI i)), (2, .ref y), (3, .int (nI k)), (4, .int (nI n)), (5, .int (nI q))] [] S (fun z S' => z = some (.int (ks_bo (decide (∀ j, j < n → gx (i + j) = gy (k + j))))) ∧ S' = S) := by
    intro u
    induction u with
    | zero =>
      intro q hq he
      refine ks_iload dX16_alike_3 rfl rfl ?_
      refine ks_iload dX16_alike_5 rfl rfl ?_
      refine ks_icmp_geN (tgt := 33) (by omega) (by omega) dX16_alike_7 (by decide) rfl (fun h1 => ?_) (fun h1 => absurd h1 (by omega))
      refine ks_iconst (x := nI 1) dX16_alike_33 (by decide) rfl ?_
      refine ks_zret rfl rfl dX16_alike_34 ?_
      rw [decide_eq_true (fun j hj => he j (by omega))]
      exact ⟨rfl, rfl⟩
    | succ u ih =>
      intro q hq he
      refine ks_iload dX16_alike_3 rfl rfl ?_
      refine ks_iload dX16_alike_5 rfl rfl ?_
      refine ks_icmp_geN (tgt := 33) (by omega) (by omega) dX16_alike_7 (by decide) rfl (fun h1 => absurd h1 (by omega)) (fun h1 => ?_)
      refine ks_aload_n dX16_alike_10 rfl rfl ?_
      refine ks_iload_n dX16_alike_11 rfl rfl ?_
      refine ks_iload dX16_alike_12 rfl rfl ?_
      refine ks_addN dX16_alike_14 rfl ?_
      refine ks_baldB (i := i + q) hx rfl (by omega) (by omega) dX16_alike_15 rfl ?_
      refine ks_aload_n dX16_alike_16 rfl rfl ?_
      refine ks_iload_n dX16_alike_17 rfl rfl ?_
      refine ks_iload dX16_alike_18 rfl rfl ?_
      refine ks_addN dX16_alike_20 rfl ?_
      refine ks_baldB (i := k + q) hy rfl (by omega) (by omega) dX16_alike_21 rfl ?_
      refine ks_icmp_eqY (tgt := 27) (kx9 _) (ky9 _) dX16_alike_22 (by decide) rfl (fun h2 => ?_) (fun h2 => ?_)
      · refine ks_incN (c := 1) (e := q + 1) dX16_alike_27 rfl (by decide) rfl (by decide) rfl ?_
        refine ks_sub [(5, _), (0, _), (1, _), (2, _), (3, _), (4, _)] rfl ?_
        refine ks_goto (tgt := 3) dX16_alike_30 (by decide) ?_
        refine ks_sub [(0, _), (1, _), (2, _), (3, _), (4, _), (5, _)] rfl (ih (q + 1) (by omega) (fun j hj => ?_))
        by_cases e : j = q
        · subst e; exact h2
        · exact he j (by omega)
      · refine ks_iconst (x := nI 0) dX16_alike_25 (by decide) rfl ?_
        refine ks_zret rfl rfl dX16_alike_26 ?_
        rw [decide_eq_false (fun h => h2 (h q (by omega)))]
        exact ⟨rfl, rfl⟩
  refine ks_of (by decide) rfl rfl (Nat.le_of_ble_eq_true rfl) ?_
  show ks_X l G mX16_alike d 0 [(0, .ref x), (1, .int (nI i)), (2, .ref y), (3, .int (nI k)), (4, .int (nI n))] [] S _
  refine ks_iconst (x := nI 0) dX16_alike_0 (by decide) rfl ?_
  refine ks_istore dX16_alike_1 (by decide) rfl ?_
  refine ks_sub [(5, _), (0, _), (1, _), (2, _), (3, _), (4, _)] rfl ?_
  exact ks_sub [(0, _), (1, _), (2, _), (3, _), (4, _), (5, _)] rfl (loop n 0 (Nat.zero_add _) (fun j hj => absurd hj (Nat.not_lt_zero j)))
set_option maxRecDepth 100000 in
set_option maxHeartbeats 800000 in
theorem c_md_isNone {l : Launch} {G : ks_G} {d : Nat} {S : ks_S} {V : Nat → Value} {P y N a : Nat} {g : Nat → Nat} {w1 : Value} {r2 r3 r4 r5 r6 r7 r8 : Nat} (hO : S.2.2 290 = some (rfE V)) (hP : S.2.2 P = some (.inr (16, [.ref y, w1, .ref r2, .ref r3, .ref r4, .ref r5, .ref r6, .ref r7, .ref r8]))) (hy : S.2.2 y = some (kB N g)) (kg : kO g) (ha : a + 36 ≤ N) (hN : N < 2 ^ 28) : ks_P l G yX16_isNone mX16_isNone (d + 1) [.ref 290, .ref P, .int (nI a)] S (fun z S' => z = some (.int (ks_bo (none_b g a))) ∧ S' = S) := by
  have n4 : ks_num g (a + 32) 4 < 4294967296 := ks_num_lt kg 4 _
  have loop : ∀ (u q : Nat), q + u = 32 → (∀ j, j < q → g (a + j) = 0) → ks_X l G mX16_isNone (d + 1) 2 [(0, .ref 290), (1, .ref P), (2, .int (nI a)), (3, .int (nI q))] [] S (fun z S' => z = some (.int (ks_bo (none_b g a))) ∧ S' = S) := by
    intro u
    induction u with
    | zero =>
      intro q hq he
      obtain rfl : q = 32 := hq
      have hall : (List.range 32).all (fun j => g (a + j) == 0) = true := by rw [List.all_eq_true]; intro j hj; rw [List.mem_range] at hj; exact beq_iff_eq.mpr (he j hj)
      refine ks_iload_n dX16_isNone_2 rfl rfl ?_
      refine ks_bipush (x := nI 32) dX16_isNone_3 (by decide) rfl ?_
      refine ks_icmp_geN (tgt := 27) (by decide) (by decide) dX16_isNone_5 (by decide) rfl (fun _ => ?_) (fun h => absurd h (by decide))
      refine ks_aload_n dX16_isNone_27 rfl rfl ?_
      refine ks_aload_n dX16_isNone_28 rfl rfl ?_
      refine ks_getN (T := TX13) (kf := 0) kx_1813 rfl in_X13 cl_X13 (by decide) hP rfl dX16_isNone_29 rfl ?_
      refine ks_iload_n dX16_isNone_32 rfl rfl ?_
      refine ks_bipush (x := nI 32) dX16_isNone_33 (by decide) rfl ?_
      refine ks_addN dX16_isNone_35 rfl ?_
      refine ks_iconst (x := nI 4) dX16_isNone_36 (by decide) rfl ?_
      refine ks_callV (n := 3) (M' := mX16_number) (c_md_number (d := d) (n := 4) hy kg (by omega) (by decide) hN) hO cl_X16 rfl kx_2020 kx_2022 kxp_68 kx_30 kx_2023 (by decide +kernel) rfl (by decide) (Nat.le_of_ble_eq_true rfl) rfl dX16_isNone_37 rfl (fun z2 T2 y2 => ?_)
      obtain ⟨rfl, hT2⟩ := y2
      obtain rfl := hT2.symm
      refine ks_ldc2 dX16_isNone_40 kx_1953 rfl ?_
      refine ks_tl (y := lN 4294967295) rfl ?_
      refine ks_lif_neN (tgt := 51) (by omega) (by decide) dX16_isNone_43 rfl dX16_isNone_44 (by decide) rfl (fun h2 => ?_) (fun h2 => ?_)
      · refine ks_iconst (x := nI 0) dX16_isNone_51 (by decide) rfl ?_
        refine ks_zret rfl rfl dX16_isNone_52 ?_
        unfold none_b
        rw [hall, Bool.true_and, beq_eq_false_iff_ne.mpr (by omega)]
        exact ⟨rfl, rfl⟩
      · refine ks_iconst (x := nI 1) dX16_isNone_47 (by decide) rfl ?_
        refine ks_goto (tgt := 52) dX16_isNone_48 (by decide) ?_
        refine ks_zret rfl rfl dX16_isNone_52 ?_
        unfold none_b
        rw [hall, Bool.true_and, beq_iff_eq.mpr (by omega)]
        exact ⟨rfl, rfl⟩
    | succ u ih =>
      intro q hq he
      have q32 : q < 32 := by omega
      refine ks_iload_n dX16_isNone_2 rfl rfl ?_
      refine ks_bipush (x := nI 32) dX16_isNone_3 (by decide) rfl ?_
      refine ks_icmp_geN (tgt := 27) (by omega) (by decide) dX16_isNone_5 (by decide) rfl (fun h1 => absurd h1 (by omega)) (fun h1 => ?_)
      refine ks_aload_n dX16_isNone_8 rfl rfl ?_
      refine ks_getN (T := TX13) (kf := 0) kx_1813 rfl in_X13 cl_X13 (by decide) hP rfl dX16_isNone_9 rfl ?_
      refine ks_iload_n dX16_isNone_12 rfl rfl ?_
      refine ks_iload_n dX16_isNone_13 rfl rfl ?_
      refine ks_addN dX16_isNone_14 rfl ?_
      refine ks_baldB (i := a + q) hy rfl (by omega) (by omega) dX16_isNone_15 rfl ?_
      refine ks_if_eqY (tgt := 21) (kg _) dX16_isNone_16 (by decide) rfl (fun h2 => ?_) (fun h2 => ?_)
      · refine ks_incN (c := 1) (e := q + 1) dX16_isNone_21 rfl (by decide) rfl (by decide) rfl ?_
        refine ks_sub [(3, _), (0, _), (1, _), (2, _)] rfl ?_
        refine ks_goto (tgt := 2) dX16_isNone_24 (by decide) ?_
        refine ks_sub [(0, _), (1, _), (2, _), (3, _)] rfl (ih (q + 1) (by omega) (fun j hj => ?_))
        by_cases e : j = q
        · subst e; exact h2
        · exact he j (by omega)
      · refine ks_iconst (x := nI 0) dX16_isNone_19 (by decide) rfl ?_
        refine ks_zret rfl rfl dX16_isNone_20 ?_
        have hall : (List.range 32).all (fun j => g (a + j) == 0) = false := by
          rw [List.all_eq_false]
          exact ⟨q, List.mem_range.mpr q32, fun e => h2 (beq_iff_eq.mp e)⟩
        unfold none_b
        rw [hall, Bool.false_and]
        exact ⟨rfl, rfl⟩
  refine ks_of (by decide) rfl rfl (Nat.le_of_ble_eq_true rfl) ?_
  show ks_X l G mX16_isNone (d + 1) 0 [(0, .ref 290), (1, .ref P), (2, .int (nI a))] [] S _
  refine ks_iconst (x := nI 0) dX16_isNone_0 (by decide) rfl ?_
  refine ks_istore_n dX16_isNone_1 (by decide) rfl ?_
  refine ks_sub [(3, _), (0, _), (1, _), (2, _)] rfl ?_
  exact ks_sub [(0, _), (1, _), (2, _), (3, _)] rfl (loop 32 0 rfl (fun j hj => absurd hj (Nat.not_lt_zero j)))
set_option maxRecDepth 100000 in
set_option maxHeartbeats 800000 in
theorem c_md_mark {l : Launch} {G : ks_G} {d : Nat} {S : ks_S} {a b c : Nat} : ks_P l G yX16_mark mX16_mark d [.int (nI a), .int (nI b), .int (nI c)] S (fun z S' => z = some (.int (nI ((a * 12 + b) * 256 + c))) ∧ S' = S) := by
  refine ks_of (by decide) rfl rfl (Nat.le_of_ble_eq_true rfl) ?_
  show ks_X l G mX16_mark d 0 [(0, .int (nI a)), (1, .int (nI b)), (2, .int (nI c))] [] S _
  refine ks_iload_n dX16_mark_0 rfl rfl ?_
  refine ks_bipush (x := nI 12) dX16_mark_1 (by decide) rfl ?_
  refine ks_mulN dX16_mark_3 rfl ?_
  refine ks_iload_n dX16_mark_4 rfl rfl ?_
  refine ks_addN dX16_mark_5 rfl ?_
  refine ks_sipush (x := nI 256) dX16_mark_6 (by decide) rfl ?_
  refine ks_mulN dX16_mark_9 rfl ?_
  refine ks_iload_n dX16_mark_10 rfl rfl ?_
  refine ks_addN dX16_mark_11 rfl ?_
  refine ks_iret rfl dX16_mark_12 ?_
  exact ⟨rfl, rfl⟩
