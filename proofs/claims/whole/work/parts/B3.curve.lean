/-! CURVE: the constructor -/
theorem wl_0 : ∀ i, i < 9 → wl (ks_row st_PRIME) i = lN (dL pP i) := by decide +kernel
theorem wl_1 : ∀ i, i < 9 → wl (ks_row st_ORDER) i = lN (dL nN i) := by decide +kernel
theorem wl_2 : ∀ i, i < 9 → wl (ks_row st_BASE_X) i = lN (dL (baR 55) i) := by decide +kernel
theorem wl_3 : ∀ i, i < 9 → wl (ks_row st_BASE_Y) i = lN (dL (baR 56) i) := by decide +kernel
theorem mlT_c {R R' : Nat → Nat} (h : ∀ j, 55 ≤ j → j < 100 → R j = R' j) : ∀ i, i < 15 → mlT R 55 i = mlT R' 55 i
  | 0, _ => by show ptR R 55 = ptR R' 55; unfold ptR; rw [h 55 (by decide) (by decide), h (55 + 1) (by decide) (by decide), h (55 + 2) (by decide) (by decide)]
  | 1, _ => by show ptD (ptR R 55) = ptD (ptR R' 55); unfold ptR; rw [h 55 (by decide) (by decide), h (55 + 1) (by decide) (by decide), h (55 + 2) (by decide) (by decide)]
  | i + 2, hi => by
    show ptO (mlT R 55 (i + 1)) (ptR R 55) (ptR R (55 + 3 * (i + 2))) = ptO (mlT R' 55 (i + 1)) (ptR R' 55) (ptR R' (55 + 3 * (i + 2)))
    rw [mlT_c h (i + 1) (by omega)]
    unfold ptR
    rw [h 55 (by decide) (by decide), h (55 + 1) (by decide) (by decide), h (55 + 2) (by decide) (by decide), h (55 + 3 * (i + 2)) (by omega) (by omega), h (55 + 3 * (i + 2) + 1) (by omega) (by omega), h (55 + 3 * (i + 2) + 2) (by omega) (by omega)]
set_option maxRecDepth 100000 in
set_option maxHeartbeats 800000 in
theorem c_cu_init {l : Launch} {G : ks_G} {d : Nat} {S : ks_S} (hb : S.2.2 14 = some (.inr (6, [.null, .null, .null, .int (ks_bo false)]))) (hS1 : S.1 = 15) (hK : ks_stOK S) : ks_P l G yX3_init mX3_init (d + 4) [.ref 14] S (fun z S' => z = none ∧ S'.1 = 20 ∧ S'.2.1 = S.2.1 + 1111 ∧ (∀ a, a < 14 ∨ 19 < a → S'.2.2 a = S.2.2 a) ∧ cuI S') := by
  have h_0 : S.2.2 (ks_B + 0) = some (kI 8 (ks_row st_PRIME)) := hK 0 _ rfl
  have h_1 : S.2.2 (ks_B + 1) = some (kI 8 (ks_row st_ORDER)) := hK 1 _ rfl
  have h_2 : S.2.2 (ks_B + 2) = some (kI 8 (ks_row st_BASE_X)) := hK 2 _ rfl
  have h_3 : S.2.2 (ks_B + 3) = some (kI 8 (ks_row st_BASE_Y)) := hK 3 _ rfl
  refine ks_of (by decide) rfl rfl (Nat.le_of_ble_eq_true rfl) ?_
  show ks_X l G mX3_init (d + 4) 0 [(0, .ref 14)] [] S _
  refine ks_aload_n dX3_init_0 rfl rfl ?_
  refine ks_objInit kx_106 kx_43 kx_44 (by omega) (by decide) dX3_init_1 rfl ?_
  refine ks_aload_n dX3_init_4 rfl rfl ?_
  refine ks_newcx (ci := 8) (x := 15) (ty0 := tyX5) (fs := [.null, .int (nI 0), .int (nI 0), .int (nI 0), .int (nI 0), .int (nI 0)]) hS1 kx_107 kx_108 kx_5 in_X5 tyX5_ok cl_X5 (fun j hj => by rcases j with _ | _ | _ | _ | _ | _ | j <;> first | rfl | (exfalso; omega)) rfl (by decide) dX3_init_5 rfl (fun T1 q1 => ?_)
  refine ks_dup dX3_init_8 rfl rfl ?_
  refine ks_gets (i := 0) rfl rfl kx_109 dX3_init_9 rfl ?_
  refine ks_bipush (x := nI 100) dX3_init_12 (by decide) rfl ?_
  refine ks_callI (n := 2) (M' := mX5_init) (c_fd_init (d := d + 2) (b := 15) (n := 100) (v := pP) q1.2.2.1 q1.1 (by decide) (by decide) ((q1.2.2.2 _ (Nat.ne_of_gt (by unfold ks_B; omega))).trans h_0) (Nat.le_add_right _ _) (by decide) wl_0) rfl rfl kx_111 kx_112 kx_5 kx_113 (by decide +kernel) rfl (by decide) (Nat.le_of_ble_eq_true rfl) rfl dX3_init_14 rfl (fun z3 U3 y3 => ?_)
  obtain ⟨rfl, m3, s3, f3, R3⟩ := y3
  refine ks_putF (T := TX3) (kf := 0) kx_535 rfl rfl rfl in_X3 tyX3_ok nmX3 cl_X3 (by decide) ((f3 _ (by decide)).trans ((q1.2.2.2 _ (by decide)).trans hb)) (Nat.le_of_ble_eq_true rfl) rfl rfl rfl rfl dX3_init_17 rfl ?_
  refine ks_aload_n dX3_init_20 rfl rfl ?_
  refine ks_newcx (ci := 8) (x := 17) (ty0 := tyX5) (fs := [.null, .int (nI 0), .int (nI 0), .int (nI 0), .int (nI 0), .int (nI 0)]) m3 kx_107 kx_108 kx_5 in_X5 tyX5_ok cl_X5 (fun j hj => by rcases j with _ | _ | _ | _ | _ | _ | j <;> first | rfl | (exfalso; omega)) rfl (by decide) dX3_init_21 rfl (fun T2 q2 => ?_)
  refine ks_dup dX3_init_24 rfl rfl ?_
  refine ks_gets (i := 1) rfl rfl kx_143 dX3_init_25 rfl ?_
  refine ks_iconst (x := nI 5) dX3_init_28 (by decide) rfl ?_
  refine ks_callI (n := 2) (M' := mX5_init) (c_fd_init (d := d + 2) (b := 17) (n := 5) (v := nN) q2.2.2.1 q2.1 (by decide) (by decide) ((q2.2.2.2 _ (Nat.ne_of_gt (by unfold ks_B; omega))).trans ((ks_set_ne _ _ (Nat.ne_of_gt (by unfold ks_B; omega))).trans ((f3 _ (Or.inr (by unfold ks_B; omega))).trans ((q1.2.2.2 _ (Nat.ne_of_gt (by unfold ks_B; omega))).trans h_1)))) (Nat.le_add_right _ _) (by decide) wl_1) rfl rfl kx_111 kx_112 kx_5 kx_113 (by decide +kernel) rfl (by decide) (Nat.le_of_ble_eq_true rfl) rfl dX3_init_29 rfl (fun z4 U4 y4 => ?_)
  obtain ⟨rfl, m4, s4, f4, R4⟩ := y4
  refine ks_putF (T := TX3) (kf := 1) kx_536 rfl rfl rfl in_X3 tyX3_ok nmX3 cl_X3 (by decide) ((f4 _ (by decide)).trans ((q2.2.2.2 _ (by decide)).trans (ks_set_same _ _ _))) (Nat.le_of_ble_eq_true rfl) rfl rfl rfl rfl dX3_init_32 rfl ?_
  refine ks_aload_n dX3_init_35 rfl rfl ?_
  refine ks_bipush (x := nI 64) dX3_init_36 (by decide) rfl ?_
  refine ks_newBx (N := 64) (x := 19) m4 kx_74 (by decide) (by decide) dX3_init_38 rfl (fun T3 q3 => ?_)
  refine ks_putF (T := TX3) (kf := 2) kx_537 rfl rfl rfl in_X3 tyX3_ok nmX3 cl_X3 (by decide) ((q3.2.2.2 _ (by decide)).trans (ks_set_same _ _ _)) (Nat.le_of_ble_eq_true rfl) rfl rfl rfl rfl dX3_init_40 rfl ?_
  have e1 : T1.2.1 = S.2.1 + 6 := q1.2.1
  have e2 : T2.2.1 = U3.2.1 + 6 := q2.2.1
  have e3 : T3.2.1 = U4.2.1 + 64 := q3.2.1
  obtain ⟨S3, hS3⟩ : ∃ S3 : ks_S, S3 = _ := ⟨_, rfl⟩
  refine ks_tS (S' := S3) hS3.symm ?_
  have F15 : fdX S3 15 16 100 (va_up (fun _ => 0) 100 pP) := ⟨by rw [hS3]; exact ((ks_set_ne _ _ (by decide)).trans ((q3.2.2.2 _ (by decide)).trans ((ks_set_ne _ _ (by decide)).trans ((f4 _ (by decide)).trans ((q2.2.2.2 _ (by decide)).trans ((ks_set_ne _ _ (by decide)).trans R3.1)))))), by rw [hS3]; exact ((ks_set_ne _ _ (by decide)).trans ((q3.2.2.2 _ (by decide)).trans ((ks_set_ne _ _ (by decide)).trans ((f4 _ (by decide)).trans ((q2.2.2.2 _ (by decide)).trans ((ks_set_ne _ _ (by decide)).trans R3.2.1)))))), R3.2.2⟩
  have F17 : fdX S3 17 18 5 (va_up (fun _ => 0) 5 nN) := ⟨by rw [hS3]; exact ((ks_set_ne _ _ (by decide)).trans ((q3.2.2.2 _ (by decide)).trans ((ks_set_ne _ _ (by decide)).trans R4.1))), by rw [hS3]; exact ((ks_set_ne _ _ (by decide)).trans ((q3.2.2.2 _ (by decide)).trans ((ks_set_ne _ _ (by decide)).trans R4.2.1))), R4.2.2⟩
  have c14 : S3.2.2 14 = some (cvO false) := by rw [hS3]; exact (ks_set_same _ _ _)
  have c19 : S3.2.2 19 = some (kB 64 (fun _ => 0)) := by rw [hS3]; exact ((ks_set_ne _ _ (by decide)).trans q3.2.2.1)
  have g2 : S3.2.2 (ks_B + 2) = some (kI 8 (ks_row st_BASE_X)) := by rw [hS3]; exact ((ks_set_ne _ _ (Nat.ne_of_gt (by unfold ks_B; omega))).trans ((q3.2.2.2 _ (Nat.ne_of_gt (by unfold ks_B; omega))).trans ((ks_set_ne _ _ (Nat.ne_of_gt (by unfold ks_B; omega))).trans ((f4 _ (Or.inr (by unfold ks_B; omega))).trans ((q2.2.2.2 _ (Nat.ne_of_gt (by unfold ks_B; omega))).trans ((ks_set_ne _ _ (Nat.ne_of_gt (by unfold ks_B; omega))).trans ((f3 _ (Or.inr (by unfold ks_B; omega))).trans ((q1.2.2.2 _ (Nat.ne_of_gt (by unfold ks_B; omega))).trans h_2))))))))
  have g3 : S3.2.2 (ks_B + 3) = some (kI 8 (ks_row st_BASE_Y)) := by rw [hS3]; exact ((ks_set_ne _ _ (Nat.ne_of_gt (by unfold ks_B; omega))).trans ((q3.2.2.2 _ (Nat.ne_of_gt (by unfold ks_B; omega))).trans ((ks_set_ne _ _ (Nat.ne_of_gt (by unfold ks_B; omega))).trans ((f4 _ (Or.inr (by unfold ks_B; omega))).trans ((q2.2.2.2 _ (Nat.ne_of_gt (by unfold ks_B; omega))).trans ((ks_set_ne _ _ (Nat.ne_of_gt (by unfold ks_B; omega))).trans ((f3 _ (Or.inr (by unfold ks_B; omega))).trans ((q1.2.2.2 _ (Nat.ne_of_gt (by unfold ks_B; omega))).trans h_3))))))))
  have g9 : ∀ a9, a9 < 14 ∨ 19 < a9 → S3.2.2 a9 = S.2.2 a9 := fun a9 ha => by rw [hS3]; exact ((ks_set_ne _ _ (by omega)).trans ((q3.2.2.2 _ (by omega)).trans ((ks_set_ne _ _ (by omega)).trans ((f4 _ (by omega)).trans ((q2.2.2.2 _ (by omega)).trans ((ks_set_ne _ _ (by omega)).trans ((f3 _ (by omega)).trans ((q1.2.2.2 _ (by omega)).trans rfl))))))))
  have m9 : S3.1 = 20 ∧ S3.2.1 = S.2.1 + 1111 := by rw [hS3]; exact ⟨q3.1, by show T3.2.1 = _; omega⟩
  refine ks_aload_n dX3_init_43 rfl rfl ?_
  refine ks_getf (T := TX3) (kf := 0) kx_535 rfl in_X3 cl_X3 (by decide) c14 rfl dX3_init_44 rfl ?_
  refine ks_bipush (x := nI 54) dX3_init_47 (by decide) rfl ?_
  refine ks_bipush (x := nI 7) dX3_init_49 (by decide) rfl ?_
  refine ks_callV (n := 2) (M' := mX5_loadSmall) (c_fd_loadSmall (d := d + 1) (o := 6) (v := 7) F15 (by decide) (by decide)) F15.1 cl_X5 rfl kx_145 kx_146 kx_147 kx_5 kx_148 (by decide +kernel) rfl (by decide) (Nat.le_of_ble_eq_true rfl) rfl dX3_init_51 rfl (fun z5 T5 y5 => ?_)
  obtain ⟨rfl, w5, F5⟩ := y5
  have c5 := w5.at c14 (by decide)
  refine ks_aload_n dX3_init_54 rfl rfl ?_
  refine ks_getf (T := TX3) (kf := 0) kx_535 rfl in_X3 cl_X3 (by decide) c5 rfl dX3_init_55 rfl ?_
  refine ks_sipush (x := nI 495) dX3_init_58 (by decide) rfl ?_
  refine ks_gets (i := 2) rfl rfl kx_489 dX3_init_61 rfl ?_
  refine ks_callV (n := 2) (M' := mX5_loadWords) (c_fd_loadWords (d := d + 3) (o := 55) (v := baR 55) F5 (by decide) (w5.at g2 (by rw [List.mem_singleton]; exact Nat.ne_of_gt (by unfold ks_B; omega))) (Nat.ne_of_gt (by unfold ks_B; omega)) (by decide) wl_2) F5.1 cl_X5 rfl kx_491 kx_116 kx_117 kx_5 kx_118 (by decide +kernel) rfl (by decide) (Nat.le_of_ble_eq_true rfl) rfl dX3_init_64 rfl (fun z6 T6 y6 => ?_)
  obtain ⟨rfl, w6, F6⟩ := y6
  have c6 := w6.at c5 (by decide)
  refine ks_aload_n dX3_init_67 rfl rfl ?_
  refine ks_getf (T := TX3) (kf := 0) kx_535 rfl in_X3 cl_X3 (by decide) c6 rfl dX3_init_68 rfl ?_
  refine ks_sipush (x := nI 504) dX3_init_71 (by decide) rfl ?_
  refine ks_gets (i := 3) rfl rfl kx_492 dX3_init_74 rfl ?_
  refine ks_callV (n := 2) (M' := mX5_loadWords) (c_fd_loadWords (d := d + 3) (o := 56) (v := baR 56) F6 (by decide) (w6.at (w5.at g3 (by rw [List.mem_singleton]; exact Nat.ne_of_gt (by unfold ks_B; omega))) (by rw [List.mem_singleton]; exact Nat.ne_of_gt (by unfold ks_B; omega))) (Nat.ne_of_gt (by unfold ks_B; omega)) (by decide) wl_3) F6.1 cl_X5 rfl kx_491 kx_116 kx_117 kx_5 kx_118 (by decide +kernel) rfl (by decide) (Nat.le_of_ble_eq_true rfl) rfl dX3_init_77 rfl (fun z7 T7 y7 => ?_)
  obtain ⟨rfl, w7, F7⟩ := y7
  have c7 := w7.at c6 (by decide)
  refine ks_aload_n dX3_init_80 rfl rfl ?_
  refine ks_getf (T := TX3) (kf := 0) kx_535 rfl in_X3 cl_X3 (by decide) c7 rfl dX3_init_81 rfl ?_
  refine ks_sipush (x := nI 513) dX3_init_84 (by decide) rfl ?_
  refine ks_iconst (x := nI 1) dX3_init_87 (by decide) rfl ?_
  refine ks_callV (n := 2) (M' := mX5_loadSmall) (c_fd_loadSmall (d := d + 1) (o := 57) (v := 1) F7 (by decide) (by decide)) F7.1 cl_X5 rfl kx_145 kx_146 kx_147 kx_5 kx_148 (by decide +kernel) rfl (by decide) (Nat.le_of_ble_eq_true rfl) rfl dX3_init_88 rfl (fun z8 T8 y8 => ?_)
  obtain ⟨rfl, w8, F8⟩ := y8
  have c8 := w8.at c7 (by decide)
  obtain ⟨R, hR⟩ : ∃ R, R = va_up (va_up (va_up (va_up (va_up (fun _ => 0) 100 pP) 6 7) 55 (baR 55)) 56 (baR 56)) 57 1 := ⟨_, rfl⟩
  rw [← hR] at F8
  have rz : ∀ j, R j = if j = 57 then 1 else if j = 56 then baR 56 else if j = 55 then baR 55 else if j = 6 then 7 else if j = 100 then pP else 0 := fun j => by
    rw [hR]
    unfold va_up
    rfl
  have rb : ∀ j, 55 ≤ j → j < 100 → R j = baR j := fun j h1 h2 => by
    rw [rz]
    by_cases a : j = 57
    · subst a; rfl
    · by_cases b : j = 56
      · subst b; rfl
      · by_cases c : j = 55
        · subst c; rfl
        · rw [if_neg a, if_neg b, if_neg c, if_neg (by omega), if_neg (by omega)]
          unfold baR
          rw [if_neg c, if_neg b, if_neg a]
  have bl : ∀ j, baR j < pP := fun j => by
    unfold baR
    split
    · decide
    · split
      · decide
      · split <;> decide
  have rl : ∀ j, j < 100 → R j < pP := fun j hj => by
    by_cases h : 55 ≤ j
    · rw [rb j h hj]; exact bl j
    · rw [rz, if_neg (by omega), if_neg (by omega), if_neg (by omega)]
      split
      · decide
      · rw [if_neg (by omega)]; decide
  have C8 : cvX T8 false R := ⟨c8, F8, by rw [rz]; rfl⟩
  refine ks_aload_n dX3_init_91 rfl rfl ?_
  refine ks_sipush (x := nI 495) dX3_init_92 (by decide) rfl ?_
  refine ks_callV (n := 1) (M' := mX3_fillMultiples) (c_cv_fillMultiples (d := d) (f := 55) C8 (by decide) (by decide) (fun i hi => ⟨rl _ (by omega), rl _ (by omega), rl _ (by omega)⟩)) c8 cl_X3 rfl kx_494 kx_495 kx_496 kx_4 kx_497 (by decide +kernel) rfl (by decide) (Nat.le_of_ble_eq_true rfl) rfl dX3_init_95 rfl (fun z9 T9 y9 => ?_)
  obtain ⟨rfl, w9, R2, C9, hm9, hk9⟩ := y9
  refine ks_ret rfl dX3_init_98 ?_
  have u9 : ks_up S3 T9 [16] := (((w5.trans w6).trans w7).trans w8).trans w9
  refine ⟨rfl, u9.1.trans m9.1, u9.2.1.trans m9.2, fun a ha => (u9.2.2 a (by rw [List.mem_singleton]; omega)).trans (g9 a ha), false, R2, _, ⟨C9, ⟨F17.up u9 (by decide) (by decide), va_up_self _ _ _⟩, _, kO_zero, u9.at c19 (by decide)⟩, ?_, ?_, ?_, ?_⟩
  · rw [hk9 6 (by decide) (by decide), rz]; rfl
  · refine ⟨?_, ?_, ?_⟩
    · show R2 7 < pP; rw [hk9 7 (by decide) (by decide)]; exact rl _ (by decide)
    · show R2 8 < pP; rw [hk9 8 (by decide) (by decide)]; exact rl _ (by decide)
    · show R2 9 < pP; rw [hk9 9 (by decide) (by decide)]; exact rl _ (by decide)
  · intro i hi; rw [hm9 i hi, mlT_c rb i hi]; rfl
  · intro i h1 h2
    refine ⟨?_, ?_, ?_⟩
    · show R2 (10 + 3 * i) < pP; rw [hk9 _ (by omega) (by omega)]; exact rl _ (by omega)
    · show R2 (10 + 3 * i + 1) < pP; rw [hk9 _ (by omega) (by omega)]; exact rl _ (by omega)
    · show R2 (10 + 3 * i + 2) < pP; rw [hk9 _ (by omega) (by omega)]; exact rl _ (by omega)
