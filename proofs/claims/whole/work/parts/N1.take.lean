/-! THE REFERENCE: take; a new block -/
set_option maxRecDepth 100000 in
set_option maxHeartbeats 800000 in
theorem c_pr_init {l : Launch} {G : ks_G} {d : Nat} {S : ks_S} {P : Nat} (hb : S.2.2 P = some (.inr (16, [.null, .int (nI 0), .null, .null, .null, .null, .null, .null, .null]))) (hS1 : S.1 = P + 1) (hB : P + 10 < ks_B) : ks_P l G yX13_init mX13_init (d + 1) [.ref P] S (fun z S' => z = none ∧ S'.1 = P + 8 ∧ S'.2.1 = S.2.1 + 456 ∧ (∀ a, a < P ∨ P + 7 < a → S'.2.2 a = S.2.2 a) ∧ S'.2.2 P = some (.inr (16, [.null, .int (nI 0), .ref (P + 1), .ref (P + 2), .ref (P + 3), .ref (P + 4), .ref (P + 5), .ref (P + 6), .ref (P + 7)])) ∧ (∀ r, r < 6 → S'.2.2 (P + 1 + r) = some (kN 12 (fun _ => 0))) ∧ S'.2.2 (P + 7) = some (kB 384 (fun _ => 0))) := by
  refine ks_of (by decide) rfl rfl (Nat.le_of_ble_eq_true rfl) ?_
  show ks_X l G mX13_init (d + 1) 0 [(0, .ref P)] [] S _
  refine ks_aload_n dX13_init_0 rfl rfl ?_
  refine ks_objInit kx_1812 kx_43 kx_44 (by omega) (by decide) dX13_init_1 rfl ?_
  refine ks_aload_n dX13_init_4 rfl rfl ?_
  refine ks_bipush (x := nI 12) dX13_init_5 (by decide) rfl ?_
  refine ks_newNx (N := 12) (x := P + 1) hS1 kx_100 (by decide) (by omega) dX13_init_7 rfl (fun T1 q1 => ?_)
  refine ks_putF (T := TX13) (kf := 2) kx_1815 rfl rfl rfl in_X13 tyX13_ok nmX13 cl_X13 (by decide) ((q1.2.2.2 _ (by omega)).trans hb) (Nat.le_of_ble_eq_true rfl) rfl rfl rfl rfl dX13_init_9 rfl ?_
  refine ks_aload_n dX13_init_12 rfl rfl ?_
  refine ks_bipush (x := nI 12) dX13_init_13 (by decide) rfl ?_
  refine ks_newNx (N := 12) (x := P + 2) q1.1 kx_100 (by decide) (by omega) dX13_init_15 rfl (fun T2 q2 => ?_)
  refine ks_putF (T := TX13) (kf := 3) kx_1817 rfl rfl rfl in_X13 tyX13_ok nmX13 cl_X13 (by decide) ((q2.2.2.2 _ (by omega)).trans (ks_set_same _ _ _)) (Nat.le_of_ble_eq_true rfl) rfl rfl rfl rfl dX13_init_17 rfl ?_
  refine ks_aload_n dX13_init_20 rfl rfl ?_
  refine ks_bipush (x := nI 12) dX13_init_21 (by decide) rfl ?_
  refine ks_newNx (N := 12) (x := P + 3) q2.1 kx_100 (by decide) (by omega) dX13_init_23 rfl (fun T3 q3 => ?_)
  refine ks_putF (T := TX13) (kf := 4) kx_1819 rfl rfl rfl in_X13 tyX13_ok nmX13 cl_X13 (by decide) ((q3.2.2.2 _ (by omega)).trans (ks_set_same _ _ _)) (Nat.le_of_ble_eq_true rfl) rfl rfl rfl rfl dX13_init_25 rfl ?_
  refine ks_aload_n dX13_init_28 rfl rfl ?_
  refine ks_bipush (x := nI 12) dX13_init_29 (by decide) rfl ?_
  refine ks_newNx (N := 12) (x := P + 4) q3.1 kx_100 (by decide) (by omega) dX13_init_31 rfl (fun T4 q4 => ?_)
  refine ks_putF (T := TX13) (kf := 5) kx_1821 rfl rfl rfl in_X13 tyX13_ok nmX13 cl_X13 (by decide) ((q4.2.2.2 _ (by omega)).trans (ks_set_same _ _ _)) (Nat.le_of_ble_eq_true rfl) rfl rfl rfl rfl dX13_init_33 rfl ?_
  refine ks_aload_n dX13_init_36 rfl rfl ?_
  refine ks_bipush (x := nI 12) dX13_init_37 (by decide) rfl ?_
  refine ks_newNx (N := 12) (x := P + 5) q4.1 kx_100 (by decide) (by omega) dX13_init_39 rfl (fun T5 q5 => ?_)
  refine ks_putF (T := TX13) (kf := 6) kx_1823 rfl rfl rfl in_X13 tyX13_ok nmX13 cl_X13 (by decide) ((q5.2.2.2 _ (by omega)).trans (ks_set_same _ _ _)) (Nat.le_of_ble_eq_true rfl) rfl rfl rfl rfl dX13_init_41 rfl ?_
  refine ks_aload_n dX13_init_44 rfl rfl ?_
  refine ks_bipush (x := nI 12) dX13_init_45 (by decide) rfl ?_
  refine ks_newNx (N := 12) (x := P + 6) q5.1 kx_100 (by decide) (by omega) dX13_init_47 rfl (fun T6 q6 => ?_)
  refine ks_putF (T := TX13) (kf := 7) kx_1825 rfl rfl rfl in_X13 tyX13_ok nmX13 cl_X13 (by decide) ((q6.2.2.2 _ (by omega)).trans (ks_set_same _ _ _)) (Nat.le_of_ble_eq_true rfl) rfl rfl rfl rfl dX13_init_49 rfl ?_
  refine ks_aload_n dX13_init_52 rfl rfl ?_
  refine ks_sipush (x := nI 384) dX13_init_53 (by decide) rfl ?_
  refine ks_newBx (N := 384) (x := P + 7) q6.1 kx_74 (by decide) (by omega) dX13_init_56 rfl (fun T7 q7 => ?_)
  refine ks_putF (T := TX13) (kf := 8) kx_1827 rfl rfl rfl in_X13 tyX13_ok nmX13 cl_X13 (by decide) ((q7.2.2.2 _ (by omega)).trans (ks_set_same _ _ _)) (Nat.le_of_ble_eq_true rfl) rfl rfl rfl rfl dX13_init_58 rfl ?_
  refine ks_ret rfl dX13_init_61 ?_
  have e1 : T1.2.1 = S.2.1 + 12 := q1.2.1
  have e2 : T2.2.1 = T1.2.1 + 12 := q2.2.1
  have e3 : T3.2.1 = T2.2.1 + 12 := q3.2.1
  have e4 : T4.2.1 = T3.2.1 + 12 := q4.2.1
  have e5 : T5.2.1 = T4.2.1 + 12 := q5.2.1
  have e6 : T6.2.1 = T5.2.1 + 12 := q6.2.1
  have e7 : T7.2.1 = T6.2.1 + 384 := q7.2.1
  refine ⟨rfl, q7.1, by show T7.2.1 = _; omega, fun a9 ha => ((ks_set_ne _ _ (by omega)).trans ((q7.2.2.2 _ (by omega)).trans ((ks_set_ne _ _ (by omega)).trans ((q6.2.2.2 _ (by omega)).trans ((ks_set_ne _ _ (by omega)).trans ((q5.2.2.2 _ (by omega)).trans ((ks_set_ne _ _ (by omega)).trans ((q4.2.2.2 _ (by omega)).trans ((ks_set_ne _ _ (by omega)).trans ((q3.2.2.2 _ (by omega)).trans ((ks_set_ne _ _ (by omega)).trans ((q2.2.2.2 _ (by omega)).trans ((ks_set_ne _ _ (by omega)).trans ((q1.2.2.2 _ (by omega)).trans rfl)))))))))))))), (ks_set_same _ _ _), fun r hr => ?_, ((ks_set_ne _ _ (by omega)).trans q7.2.2.1)⟩
  rcases r with _ | _ | _ | _ | _ | _ | r
  · exact ((ks_set_ne _ _ (by omega)).trans ((q7.2.2.2 _ (by omega)).trans ((ks_set_ne _ _ (by omega)).trans ((q6.2.2.2 _ (by omega)).trans ((ks_set_ne _ _ (by omega)).trans ((q5.2.2.2 _ (by omega)).trans ((ks_set_ne _ _ (by omega)).trans ((q4.2.2.2 _ (by omega)).trans ((ks_set_ne _ _ (by omega)).trans ((q3.2.2.2 _ (by omega)).trans ((ks_set_ne _ _ (by omega)).trans ((q2.2.2.2 _ (by omega)).trans ((ks_set_ne _ _ (by omega)).trans q1.2.2.1)))))))))))))
  · exact ((ks_set_ne _ _ (by omega)).trans ((q7.2.2.2 _ (by omega)).trans ((ks_set_ne _ _ (by omega)).trans ((q6.2.2.2 _ (by omega)).trans ((ks_set_ne _ _ (by omega)).trans ((q5.2.2.2 _ (by omega)).trans ((ks_set_ne _ _ (by omega)).trans ((q4.2.2.2 _ (by omega)).trans ((ks_set_ne _ _ (by omega)).trans ((q3.2.2.2 _ (by omega)).trans ((ks_set_ne _ _ (by omega)).trans q2.2.2.1)))))))))))
  · exact ((ks_set_ne _ _ (by omega)).trans ((q7.2.2.2 _ (by omega)).trans ((ks_set_ne _ _ (by omega)).trans ((q6.2.2.2 _ (by omega)).trans ((ks_set_ne _ _ (by omega)).trans ((q5.2.2.2 _ (by omega)).trans ((ks_set_ne _ _ (by omega)).trans ((q4.2.2.2 _ (by omega)).trans ((ks_set_ne _ _ (by omega)).trans q3.2.2.1)))))))))
  · exact ((ks_set_ne _ _ (by omega)).trans ((q7.2.2.2 _ (by omega)).trans ((ks_set_ne _ _ (by omega)).trans ((q6.2.2.2 _ (by omega)).trans ((ks_set_ne _ _ (by omega)).trans ((q5.2.2.2 _ (by omega)).trans ((ks_set_ne _ _ (by omega)).trans q4.2.2.1)))))))
  · exact ((ks_set_ne _ _ (by omega)).trans ((q7.2.2.2 _ (by omega)).trans ((ks_set_ne _ _ (by omega)).trans ((q6.2.2.2 _ (by omega)).trans ((ks_set_ne _ _ (by omega)).trans q5.2.2.1)))))
  · exact ((ks_set_ne _ _ (by omega)).trans ((q7.2.2.2 _ (by omega)).trans ((ks_set_ne _ _ (by omega)).trans q6.2.2.1)))
  · omega
set_option maxRecDepth 100000 in
set_option maxHeartbeats 800000 in
theorem c_bl_init {l : Launch} {G : ks_G} {d : Nat} {S : ks_S} {N : Nat} (hb : S.2.2 N = some (.inr (15, [.null, .int (nI 0), .null, .null, .int (nI 0), .int (nI 0), .int (ks_bo false), .int (ks_bo false), .null]))) (hS1 : S.1 = N + 1) (hB : N + 20 < ks_B) : ks_P l G yX12_init mX12_init (d + 2) [.ref N] S (fun z S' => z = none ∧ S'.1 = N + 12 ∧ S'.2.1 = S.2.1 + 2105 ∧ (∀ a, a < N ∨ N + 11 < a → S'.2.2 a = S.2.2 a) ∧ S'.2.2 N = some (.inr (15, [.ref (N + 1), .int (nI 0), .ref (N + 2), .ref (N + 3), .int (nI 0), .int (nI 0), .int (ks_bo false), .int (ks_bo false), .ref (N + 11)])) ∧ S'.2.2 (N + 1) = some (kB 1600 (fun _ => 0)) ∧ S'.2.2 (N + 2) = some (kB 32 (fun _ => 0)) ∧ S'.2.2 (N + 11) = some (kN 8 (fun _ => 0)) ∧ S'.2.2 (N + 3) = some (.inr (16, [.null, .int (nI 0), .ref (N + 3 + 1), .ref (N + 3 + 2), .ref (N + 3 + 3), .ref (N + 3 + 4), .ref (N + 3 + 5), .ref (N + 3 + 6), .ref (N + 3 + 7)])) ∧ (∀ r, r < 6 → S'.2.2 (N + 3 + 1 + r) = some (kN 12 (fun _ => 0))) ∧ S'.2.2 (N + 3 + 7) = some (kB 384 (fun _ => 0))) := by
  refine ks_of (by decide) rfl rfl (Nat.le_of_ble_eq_true rfl) ?_
  show ks_X l G mX12_init (d + 2) 0 [(0, .ref N)] [] S _
  refine ks_aload_n dX12_init_0 rfl rfl ?_
  refine ks_objInit kx_2054 kx_43 kx_44 (by omega) (by decide) dX12_init_1 rfl ?_
  refine ks_aload_n dX12_init_4 rfl rfl ?_
  refine ks_sipush (x := nI 1600) dX12_init_5 (by decide) rfl ?_
  refine ks_newBx (N := 1600) (x := N + 1) hS1 kx_74 (by decide) (by omega) dX12_init_8 rfl (fun T1 q1 => ?_)
  refine ks_putF (T := TX12) (kf := 0) kx_2057 rfl rfl rfl in_X12 tyX12_ok nmX12 cl_X12 (by decide) ((q1.2.2.2 _ (by omega)).trans hb) (Nat.le_of_ble_eq_true rfl) rfl rfl rfl rfl dX12_init_10 rfl ?_
  refine ks_aload_n dX12_init_13 rfl rfl ?_
  refine ks_bipush (x := nI 32) dX12_init_14 (by decide) rfl ?_
  refine ks_newBx (N := 32) (x := N + 2) q1.1 kx_74 (by decide) (by omega) dX12_init_16 rfl (fun T2 q2 => ?_)
  refine ks_putF (T := TX12) (kf := 2) kx_2060 rfl rfl rfl in_X12 tyX12_ok nmX12 cl_X12 (by decide) ((q2.2.2.2 _ (by omega)).trans (ks_set_same _ _ _)) (Nat.le_of_ble_eq_true rfl) rfl rfl rfl rfl dX12_init_18 rfl ?_
  refine ks_aload_n dX12_init_21 rfl rfl ?_
  refine ks_newcx (ci := 16) (x := N + 3) (ty0 := tyX13) (fs := [.null, .int (nI 0), .null, .null, .null, .null, .null, .null, .null]) q2.1 kx_2055 kx_1808 kx_32 in_X13 tyX13_ok cl_X13 (fun j hj => by rcases j with _ | _ | _ | _ | _ | _ | _ | _ | _ | j <;> first | rfl | (exfalso; omega)) rfl (by omega) dX12_init_22 rfl (fun T3 q3 => ?_)
  refine ks_dup dX12_init_25 rfl rfl ?_
  refine ks_callIN (n := 0) (M' := mX13_init) (c_pr_init (d := d) (P := N + 3) q3.2.2.1 q3.1 (by omega)) rfl rfl kx_2056 kx_1810 kx_32 kx_1811 (by decide +kernel) rfl (by decide) (Nat.le_of_ble_eq_true rfl) rfl dX12_init_26 rfl (fun z4 U4 y4 => ?_)
  obtain ⟨rfl, m4, s4, f4, R4a, R4b, R4c⟩ := y4
  refine ks_putF (T := TX12) (kf := 3) kx_2062 rfl rfl rfl in_X12 tyX12_ok nmX12 cl_X12 (by decide) ((f4 _ (by omega)).trans ((q3.2.2.2 _ (by omega)).trans (ks_set_same _ _ _))) (Nat.le_of_ble_eq_true rfl) rfl rfl rfl rfl dX12_init_29 rfl ?_
  refine ks_aload_n dX12_init_32 rfl rfl ?_
  refine ks_bipush (x := nI 8) dX12_init_33 (by decide) rfl ?_
  refine ks_newNx (N := 8) (x := N + 11) m4 kx_100 (by decide) (by omega) dX12_init_35 rfl (fun T4 q4 => ?_)
  refine ks_putF (T := TX12) (kf := 8) kx_2068 rfl rfl rfl in_X12 tyX12_ok nmX12 cl_X12 (by decide) ((q4.2.2.2 _ (by omega)).trans (ks_set_same _ _ _)) (Nat.le_of_ble_eq_true rfl) rfl rfl rfl rfl dX12_init_37 rfl ?_
  refine ks_ret rfl dX12_init_40 ?_
  have e1 : T1.2.1 = S.2.1 + 1600 := q1.2.1
  have e2 : T2.2.1 = T1.2.1 + 32 := q2.2.1
  have e3 : T3.2.1 = T2.2.1 + 9 := q3.2.1
  have e4 : T4.2.1 = U4.2.1 + 8 := q4.2.1
  refine ⟨rfl, q4.1, by show T4.2.1 = _; omega, fun a9 ha => ((ks_set_ne _ _ (by omega)).trans ((q4.2.2.2 _ (by omega)).trans ((ks_set_ne _ _ (by omega)).trans ((f4 _ (by omega)).trans ((q3.2.2.2 _ (by omega)).trans ((ks_set_ne _ _ (by omega)).trans ((q2.2.2.2 _ (by omega)).trans ((ks_set_ne _ _ (by omega)).trans ((q1.2.2.2 _ (by omega)).trans rfl))))))))), (ks_set_same _ _ _), ((ks_set_ne _ _ (by omega)).trans ((q4.2.2.2 _ (by omega)).trans ((ks_set_ne _ _ (by omega)).trans ((f4 _ (by omega)).trans ((q3.2.2.2 _ (by omega)).trans ((ks_set_ne _ _ (by omega)).trans ((q2.2.2.2 _ (by omega)).trans ((ks_set_ne _ _ (by omega)).trans q1.2.2.1)))))))), ((ks_set_ne _ _ (by omega)).trans ((q4.2.2.2 _ (by omega)).trans ((ks_set_ne _ _ (by omega)).trans ((f4 _ (by omega)).trans ((q3.2.2.2 _ (by omega)).trans ((ks_set_ne _ _ (by omega)).trans q2.2.2.1)))))), ((ks_set_ne _ _ (by omega)).trans q4.2.2.1), ((ks_set_ne _ _ (by omega)).trans ((q4.2.2.2 _ (by omega)).trans ((ks_set_ne _ _ (by omega)).trans R4a))), fun r hr => ((ks_set_ne _ _ (by omega)).trans ((q4.2.2.2 _ (by omega)).trans ((ks_set_ne _ _ (by omega)).trans (R4b r hr)))), ((ks_set_ne _ _ (by omega)).trans ((q4.2.2.2 _ (by omega)).trans ((ks_set_ne _ _ (by omega)).trans R4c)))⟩
set_option maxRecDepth 100000 in
set_option maxHeartbeats 800000 in
theorem c_md_take {l : Launch} {G : ks_G} {d : Nat} {S : ks_S} {V : Nat → Value} {F n : Nat} {B : Nat → Bk} {Gp : Pt} {R : List Nat} {fc : Nat → Nat} (hI : rcnS S V F n B Gp R) (hR4 : R.length ≤ 400) (h342 : S.2.2 342 = some (kN 512 fc)) : ks_P l G yX16_take mX16_take d [.ref 290] S (fun z S' => z = none ∧ ∃ g, ks_up S S' [290, 342] ∧ rcnS S' (va_up V 50 (.int (nI R.length))) F n B Gp R ∧ S'.2.2 342 = some (kN 512 g) ∧ ∀ j, j < R.length → g j = R.getD j 0) := by
  obtain ⟨o0, mb0, rb0, ⟨f3, e343, hf3⟩, v52, hRl, hm⟩ := id hI
  have lp : ∀ (u i : Nat) (S1 : ks_S) (g : Nat → Nat), i + u = R.length → ks_up S S1 [290, 342] → S1.2.2 290 = some (rfE (va_up V 50 (.int (nI R.length)))) → S1.2.2 342 = some (kN 512 g) → (∀ j, j < i → g j = R.getD j 0) → ks_X l G mX16_take d 10 [(0, .ref 290), (1, .int (nI i))] [] S1 (fun z S' => z = none ∧ ∃ g, ks_up S S' [290, 342] ∧ rcnS S' (va_up V 50 (.int (nI R.length))) F n B Gp R ∧ S'.2.2 342 = some (kN 512 g) ∧ ∀ j, j < R.length → g j = R.getD j 0) := by
    intro u
    induction u with
    | zero =>
      intro i S1 g hi hu o1 e1 hg
      have f343 := hu.at e343 (by decide)
      refine ks_iload_n dX16_take_10 rfl rfl ?_
      refine ks_aload_n dX16_take_11 rfl rfl ?_
      refine ks_getf (T := TX16) (kf := 50) kx_2418 rfl in_X16 cl_X16 (by decide) o1 rfl dX16_take_12 rfl ?_
      refine ks_tv (va_up_self _ _ _) ?_
      refine ks_icmp_geN (tgt := 36) (by omega) (by omega) dX16_take_15 (by decide) rfl (fun h1 => ?_) (fun h1 => absurd h1 (by omega))
      refine ks_ret rfl dX16_take_36 ?_
      have hi9 : i = R.length := hi
      have v9 : ∀ j, j ≠ 50 → va_up V 50 (.int (nI R.length)) j = V j := fun j hj => va_up_ne _ _ hj
      have u1 : ks_up S (ks_set S 290 (rfE (va_up V 50 (.int (nI R.length))))) [290] := ks_up_set _ _ (by decide)
      have m1 := mb0.ob u1 (ks_set_same _ _ _) (fun j hj => v9 j (fun q => absurd (q ▸ hj) (by decide)))
      have u2 : ks_up (ks_set S 290 (rfE (va_up V 50 (.int (nI R.length))))) S1 [342] := ⟨hu.1, hu.2.1, fun a ha => by
        by_cases e : a = 290
        · rw [e, o1, ks_set_same]
        · rw [ks_set_ne _ _ e]; exact hu.2.2 a (by simp only [List.mem_cons, List.not_mem_nil, or_false, not_or]; exact ⟨e, fun h => ha (by rw [h]; exact List.mem_singleton.mpr rfl)⟩)⟩
      have m2 := m1.fr u2 (by decide) (fun x hx => by
        rw [List.mem_singleton] at hx
        subst hx
        exact ⟨⟨_, (ks_set_ne _ _ (by decide)).trans h342, fun g h => by cases h⟩, ⟨_, e1, fun g h => by cases h⟩⟩)
      exact ⟨rfl, g, hu, ⟨o1, m2, rb0.up hu (by decide), ⟨f3, f343, hf3⟩, (v9 _ (by decide)).trans v52, hRl, hm⟩, e1, fun j hj => hg j (by omega)⟩
    | succ u ih =>
      intro i S1 g hi hu o1 e1 hg
      have f343 := hu.at e343 (by decide)
      refine ks_iload_n dX16_take_10 rfl rfl ?_
      refine ks_aload_n dX16_take_11 rfl rfl ?_
      refine ks_getf (T := TX16) (kf := 50) kx_2418 rfl in_X16 cl_X16 (by decide) o1 rfl dX16_take_12 rfl ?_
      refine ks_tv (va_up_self _ _ _) ?_
      refine ks_icmp_geN (tgt := 36) (by omega) (by omega) dX16_take_15 (by decide) rfl (fun h1 => absurd h1 (by omega)) (fun h1 => ?_)
      refine ks_aload_n dX16_take_18 rfl rfl ?_
      refine ks_getf (T := TX16) (kf := 49) kx_2417 rfl in_X16 cl_X16 (by decide) o1 rfl dX16_take_19 rfl ?_
      refine ks_iload_n dX16_take_22 rfl rfl ?_
      refine ks_aload_n dX16_take_23 rfl rfl ?_
      refine ks_getf (T := TX16) (kf := 51) kx_2419 rfl in_X16 cl_X16 (by decide) o1 rfl dX16_take_24 rfl ?_
      refine ks_iload_n dX16_take_27 rfl rfl ?_
      refine ks_ialdN (i := i) f343 rfl (by omega) (by decide) dX16_take_28 rfl ?_
      rw [hf3 i (by omega)]
      refine ks_iastNN (i := i) (v := R.getD i 0) (by decide) e1 (by omega) (by decide) dX16_take_29 rfl ?_
      refine ks_incN (c := 1) (e := i + 1) dX16_take_30 rfl (by decide) rfl (by decide) rfl ?_
      refine ks_sub [(1, _), (0, _)] rfl ?_
      refine ks_goto (tgt := 10) dX16_take_33 (by decide) ?_
      exact ks_sub [(0, _), (1, _)] rfl (ih (i + 1) _ (va_up g i (R.getD i 0)) (by omega) (hu.trans (ks_up_set _ _ (by decide))) ((ks_set_ne _ _ (by decide)).trans o1) (ks_set_same _ _ _) (fun j hj => by
        by_cases e : j = i
        · rw [e, va_up_self]
        · rw [va_up_ne _ _ e]; exact hg j (by omega)))
  refine ks_of (by decide) rfl rfl (Nat.le_of_ble_eq_true rfl) ?_
  show ks_X l G mX16_take d 0 [(0, .ref 290)] [] S _
  refine ks_aload_n dX16_take_0 rfl rfl ?_
  refine ks_aload_n dX16_take_1 rfl rfl ?_
  refine ks_getf (T := TX16) (kf := 52) kx_2420 rfl in_X16 cl_X16 (by decide) o0 rfl dX16_take_2 rfl ?_
  refine ks_tv v52 ?_
  refine ks_putf (T := TX16) (kf := 50) kx_2418 rfl in_X16 tyX16_ok nmX16 cl_X16 (by decide) o0 (Nat.le_of_ble_eq_true rfl) rfl rfl rfl rfl dX16_take_5 rfl ?_
  refine md_put mdp_50 ?_
  refine ks_iconst (x := nI 0) dX16_take_8 (by decide) rfl ?_
  refine ks_istore_n dX16_take_9 (by decide) rfl ?_
  refine ks_sub [(1, _), (0, _)] rfl ?_
  exact ks_sub [(0, _), (1, _)] rfl (lp R.length 0 _ fc (Nat.zero_add _) (ks_up_set _ _ (by decide)) (ks_set_same _ _ _) ((ks_set_ne _ _ (by decide)).trans h342) (fun j hj => absurd hj (Nat.not_lt_zero _)))
