/-! CONSTRUCTORS: Machine, Chain -/
theorem bf_init {l : Launch} {G : ks_G} {d : Nat} {S : ks_S} {b N : Nat} (hb : S.2.2 b = some (.inr (4, [.null, .int (nI 0), .int (ks_bo false)]))) (hS1 : S.1 = b + 1) (hN : N < 1000000) (hB : b + 2 < ks_B) : ks_P l G yX1_init mX1_init (d + 1) [.ref b, .int (nI N)] S (fun z S' => z = none ∧ S'.1 = b + 2 ∧ S'.2.1 = S.2.1 + N ∧ (∀ a, a < b ∨ b + 1 < a → S'.2.2 a = S.2.2 a) ∧ bfS S' b (b + 1) N (some [])) := by
  refine (c_Buffer_init (d := d) (b := b) (N := N) hb (by omega) hN (by omega)).mono ?_
  rintro z S' ⟨rfl, rfl⟩
  refine ⟨rfl, by show S.1 + 1 = _; omega, rfl, fun a ha => (ks_set_ne _ _ (by omega)).trans (ks_add_ne _ _ _ (by omega)), 0, fun _ => 0, kO_zero, Nat.zero_le _, ?_, ?_, rfl, fun j hj => absurd hj (Nat.not_lt_zero j)⟩
  · rw [← hS1]; exact (ks_set_ne _ _ (by omega)).trans (ks_add_new _ _ _)
  · rw [← hS1]; exact ks_set_same _ _ _
theorem st_ok.ag {S S1 : ks_S} {xs ys : List (List Nat)} {u : Nat} (h : st_ok S xs ys u) (hg : ∀ a, 29 ≤ a → a ≤ 35 → S1.2.2 a = S.2.2 a) : st_ok S1 xs ys u := by
  obtain ⟨n, o, ar, dt, fa, fc, oa, oc, ⟨h1, h2, h3, h4, h5, h6, h7, h8⟩, h9⟩ := h
  exact ⟨n, o, ar, dt, fa, fc, oa, oc, ⟨(hg _ (by decide) (by decide)).trans h1, (hg _ (by decide) (by decide)).trans h2, (hg _ (by decide) (by decide)).trans h3, (hg _ (by decide) (by decide)).trans h4, (hg _ (by decide) (by decide)).trans h5, (hg _ (by decide) (by decide)).trans h6, (hg _ (by decide) (by decide)).trans h7, h8⟩, h9⟩
theorem bfS.ag {S S1 : ks_S} {b a N : Nat} {o : Option (List Nat)} (h : bfS S b a N o) (h1 : S1.2.2 a = S.2.2 a) (h2 : S1.2.2 b = S.2.2 b) : bfS S1 b a N o := by
  obtain ⟨len, g, c1, c2, c3, c4, c5⟩ := h
  exact ⟨len, g, c1, c2, h1.trans c3, h2.trans c4, c5⟩
set_option maxRecDepth 100000 in
set_option maxHeartbeats 800000 in
theorem c_mc_init {l : Launch} {G : ks_G} {d : Nat} {S : ks_S} (hb : S.2.2 27 = some (.inr (10, [.null, .null, .null, .null, .null, .null, .null, .null, .int (nI 0), .null, .int (nI 0), .int (nI 0), .int (nI 0), .int (nI 0), .int (nI 0), .int (nI 0), .int (nI 0), .int (nI 0), .int (nI 0), .int (nI 0)]))) (hS1 : S.1 = 28) : ks_P l G yX7_init mX7_init (d + 2) [.ref 27, .ref 7, .ref 14] S (fun z S' => z = none ∧ S'.1 = 41 ∧ S'.2.1 = S.2.1 + 37969 ∧ (∀ a, a < 27 ∨ 40 < a → S'.2.2 a = S.2.2 a) ∧ (∃ xs ys u, st_ok S' xs ys u) ∧ (∃ dn, S'.2.2 36 = some (kZ 202 dn)) ∧ (∃ g, kO g ∧ S'.2.2 28 = some (kB 32 g)) ∧ (∃ ob, bfS S' 39 40 8000 ob) ∧ (∃ ob, bfS S' 37 38 1600 ob) ∧ ∃ vw ji vc j1 j2 j3 j4 j5 j6 i1 i2 i3 i4, S'.2.2 27 = some (.inr (10, [.ref 28, .ref 7, .ref 14, .ref 29, .ref 36, .ref 37, .ref 39, vw, .int ji, vc, .int j1, .int j2, .int j3, .int j4, .int j5, .int j6, .int i1, .int i2, .int i3, .int i4]))) := by
  refine ks_of (by decide) rfl rfl (Nat.le_of_ble_eq_true rfl) ?_
  show ks_X l G mX7_init (d + 2) 0 [(0, .ref 27), (1, .ref 7), (2, .ref 14)] [] S _
  refine ks_aload_n dX7_init_0 rfl rfl ?_
  refine ks_objInit kx_601 kx_43 kx_44 (by omega) (by decide) dX7_init_1 rfl ?_
  refine ks_aload_n dX7_init_4 rfl rfl ?_
  refine ks_bipush (x := nI 32) dX7_init_5 (by decide) rfl ?_
  refine ks_newBx (N := 32) (x := 28) hS1 kx_74 (by decide) (by decide) dX7_init_7 rfl (fun T1 q1 => ?_)
  refine ks_putF (T := TX7) (kf := 0) kx_642 rfl rfl rfl in_X7 tyX7_ok nmX7 cl_X7 (by decide) ((q1.2.2.2 _ (by decide)).trans hb) (Nat.le_of_ble_eq_true rfl) rfl rfl rfl rfl dX7_init_9 rfl ?_
  refine ks_aload_n dX7_init_12 rfl rfl ?_
  refine ks_newcx (ci := 11) (x := 29) (ty0 := tyX8) (fs := [.null, .null, .null, .int (nI 0), .int (nI 0), .int (nI 0), .null, .null, .null]) q1.1 kx_602 kx_603 kx_25 in_X8 tyX8_ok cl_X8 (fun j hj => by rcases j with _ | _ | _ | _ | _ | _ | _ | _ | _ | j <;> first | rfl | (exfalso; omega)) rfl (by decide) dX7_init_13 rfl (fun T2 q2 => ?_)
  refine ks_dup dX7_init_16 rfl rfl ?_
  refine ks_callIN (n := 0) (M' := mX8_init) (c_st_init (d := d) q2.2.2.1 q2.1) rfl rfl kx_604 kx_605 kx_25 kx_606 (by decide +kernel) rfl (by decide) (Nat.le_of_ble_eq_true rfl) rfl dX7_init_17 rfl (fun z3 U3 y3 => ?_)
  obtain ⟨rfl, m3, s3, f3, R3⟩ := y3
  refine ks_putF (T := TX7) (kf := 3) kx_646 rfl rfl rfl in_X7 tyX7_ok nmX7 cl_X7 (by decide) ((f3 _ (by decide)).trans ((q2.2.2.2 _ (by decide)).trans (ks_set_same _ _ _))) (Nat.le_of_ble_eq_true rfl) rfl rfl rfl rfl dX7_init_20 rfl ?_
  refine ks_aload_n dX7_init_23 rfl rfl ?_
  refine ks_sipush (x := nI 202) dX7_init_24 (by decide) rfl ?_
  refine ks_newZx (N := 202) (x := 36) m3 kx_704 (by decide) (by decide) dX7_init_27 rfl (fun T3 q3 => ?_)
  refine ks_putF (T := TX7) (kf := 4) kx_647 rfl rfl rfl in_X7 tyX7_ok nmX7 cl_X7 (by decide) ((q3.2.2.2 _ (by decide)).trans (ks_set_same _ _ _)) (Nat.le_of_ble_eq_true rfl) rfl rfl rfl rfl dX7_init_29 rfl ?_
  refine ks_aload_n dX7_init_32 rfl rfl ?_
  refine ks_newcx (ci := 4) (x := 37) (ty0 := tyX1) (fs := [.null, .int (nI 0), .int (ks_bo false)]) q3.1 kx_640 kx_46 kx_2 in_X1 tyX1_ok cl_X1 (fun j hj => by rcases j with _ | _ | _ | j <;> first | rfl | (exfalso; omega)) rfl (by decide) dX7_init_33 rfl (fun T4 q4 => ?_)
  refine ks_dup dX7_init_36 rfl rfl ?_
  refine ks_sipush (x := nI 1600) dX7_init_37 (by decide) rfl ?_
  refine ks_callI (n := 1) (M' := mX1_init) (bf_init (d := d) (b := 37) (N := 1600) q4.2.2.1 q4.1 (by decide) (by decide)) rfl rfl kx_641 kx_48 kx_2 kx_49 (by decide +kernel) rfl (by decide) (Nat.le_of_ble_eq_true rfl) rfl dX7_init_40 rfl (fun z5 U5 y5 => ?_)
  obtain ⟨rfl, m5, s5, f5, R5⟩ := y5
  refine ks_putF (T := TX7) (kf := 5) kx_648 rfl rfl rfl in_X7 tyX7_ok nmX7 cl_X7 (by decide) ((f5 _ (by decide)).trans ((q4.2.2.2 _ (by decide)).trans (ks_set_same _ _ _))) (Nat.le_of_ble_eq_true rfl) rfl rfl rfl rfl dX7_init_43 rfl ?_
  refine ks_aload_n dX7_init_46 rfl rfl ?_
  refine ks_newcx (ci := 4) (x := 39) (ty0 := tyX1) (fs := [.null, .int (nI 0), .int (ks_bo false)]) m5 kx_640 kx_46 kx_2 in_X1 tyX1_ok cl_X1 (fun j hj => by rcases j with _ | _ | _ | j <;> first | rfl | (exfalso; omega)) rfl (by decide) dX7_init_47 rfl (fun T5 q5 => ?_)
  refine ks_dup dX7_init_50 rfl rfl ?_
  refine ks_sipush (x := nI 8000) dX7_init_51 (by decide) rfl ?_
  refine ks_callI (n := 1) (M' := mX1_init) (bf_init (d := d) (b := 39) (N := 8000) q5.2.2.1 q5.1 (by decide) (by decide)) rfl rfl kx_641 kx_48 kx_2 kx_49 (by decide +kernel) rfl (by decide) (Nat.le_of_ble_eq_true rfl) rfl dX7_init_54 rfl (fun z6 U6 y6 => ?_)
  obtain ⟨rfl, m6, s6, f6, R6⟩ := y6
  refine ks_putF (T := TX7) (kf := 6) kx_649 rfl rfl rfl in_X7 tyX7_ok nmX7 cl_X7 (by decide) ((f6 _ (by decide)).trans ((q5.2.2.2 _ (by decide)).trans (ks_set_same _ _ _))) (Nat.le_of_ble_eq_true rfl) rfl rfl rfl rfl dX7_init_57 rfl ?_
  refine ks_aload_n dX7_init_60 rfl rfl ?_
  refine ks_aload_n dX7_init_61 rfl rfl ?_
  refine ks_putF (T := TX7) (kf := 1) kx_644 rfl rfl rfl in_X7 tyX7_ok nmX7 cl_X7 (by decide) (ks_set_same _ _ _) (Nat.le_of_ble_eq_true rfl) rfl rfl rfl rfl dX7_init_62 rfl ?_
  refine ks_aload_n dX7_init_65 rfl rfl ?_
  refine ks_aload_n dX7_init_66 rfl rfl ?_
  refine ks_putF (T := TX7) (kf := 2) kx_645 rfl rfl rfl in_X7 tyX7_ok nmX7 cl_X7 (by decide) (ks_set_same _ _ _) (Nat.le_of_ble_eq_true rfl) rfl rfl rfl rfl dX7_init_67 rfl ?_
  refine ks_ret rfl dX7_init_70 ?_
  have e1 : T1.2.1 = S.2.1 + 32 := q1.2.1
  have e2 : T2.2.1 = T1.2.1 + 9 := q2.2.1
  have e3 : T3.2.1 = U3.2.1 + 202 := q3.2.1
  have e4 : T4.2.1 = T3.2.1 + 3 := q4.2.1
  have e5 : T5.2.1 = U5.2.1 + 3 := q5.2.1
  refine ⟨rfl, m6, by show U6.2.1 = _; omega, fun a9 ha => ((ks_set_ne _ _ (by omega)).trans ((ks_set_ne _ _ (by omega)).trans ((ks_set_ne _ _ (by omega)).trans ((f6 _ (by omega)).trans ((q5.2.2.2 _ (by omega)).trans ((ks_set_ne _ _ (by omega)).trans ((f5 _ (by omega)).trans ((q4.2.2.2 _ (by omega)).trans ((ks_set_ne _ _ (by omega)).trans ((q3.2.2.2 _ (by omega)).trans ((ks_set_ne _ _ (by omega)).trans ((f3 _ (by omega)).trans ((q2.2.2.2 _ (by omega)).trans ((ks_set_ne _ _ (by omega)).trans ((q1.2.2.2 _ (by omega)).trans rfl))))))))))))))), ⟨_, _, _, R3.ag (fun a3 h1 h2 => ((ks_set_ne _ _ (by omega)).trans ((ks_set_ne _ _ (by omega)).trans ((ks_set_ne _ _ (by omega)).trans ((f6 _ (by omega)).trans ((q5.2.2.2 _ (by omega)).trans ((ks_set_ne _ _ (by omega)).trans ((f5 _ (by omega)).trans ((q4.2.2.2 _ (by omega)).trans ((ks_set_ne _ _ (by omega)).trans ((q3.2.2.2 _ (by omega)).trans ((ks_set_ne _ _ (by omega)).trans rfl))))))))))))⟩, ⟨_, ((ks_set_ne _ _ (by decide)).trans ((ks_set_ne _ _ (by decide)).trans ((ks_set_ne _ _ (by decide)).trans ((f6 _ (by decide)).trans ((q5.2.2.2 _ (by decide)).trans ((ks_set_ne _ _ (by decide)).trans ((f5 _ (by decide)).trans ((q4.2.2.2 _ (by decide)).trans ((ks_set_ne _ _ (by decide)).trans q3.2.2.1)))))))))⟩, ⟨_, kO_zero, ((ks_set_ne _ _ (by decide)).trans ((ks_set_ne _ _ (by decide)).trans ((ks_set_ne _ _ (by decide)).trans ((f6 _ (by decide)).trans ((q5.2.2.2 _ (by decide)).trans ((ks_set_ne _ _ (by decide)).trans ((f5 _ (by decide)).trans ((q4.2.2.2 _ (by decide)).trans ((ks_set_ne _ _ (by decide)).trans ((q3.2.2.2 _ (by decide)).trans ((ks_set_ne _ _ (by decide)).trans ((f3 _ (by decide)).trans ((q2.2.2.2 _ (by decide)).trans ((ks_set_ne _ _ (by decide)).trans q1.2.2.1))))))))))))))⟩, ⟨_, R6.ag ((ks_set_ne _ _ (by decide)).trans ((ks_set_ne _ _ (by decide)).trans ((ks_set_ne _ _ (by decide)).trans rfl))) ((ks_set_ne _ _ (by decide)).trans ((ks_set_ne _ _ (by decide)).trans ((ks_set_ne _ _ (by decide)).trans rfl)))⟩, ⟨_, R5.ag ((ks_set_ne _ _ (by decide)).trans ((ks_set_ne _ _ (by decide)).trans ((ks_set_ne _ _ (by decide)).trans ((f6 _ (by decide)).trans ((q5.2.2.2 _ (by decide)).trans ((ks_set_ne _ _ (by decide)).trans rfl)))))) ((ks_set_ne _ _ (by decide)).trans ((ks_set_ne _ _ (by decide)).trans ((ks_set_ne _ _ (by decide)).trans ((f6 _ (by decide)).trans ((q5.2.2.2 _ (by decide)).trans ((ks_set_ne _ _ (by decide)).trans rfl))))))⟩, _, _, _, _, _, _, _, _, _, _, _, _, _, (ks_set_same _ _ _)⟩
