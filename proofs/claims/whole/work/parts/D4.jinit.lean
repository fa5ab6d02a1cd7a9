/-! CONSTRUCTORS: the judge -/
theorem ks_stOK.ag {S S1 : ks_S} (h : ks_stOK S) (hg : ∀ a, ks_B ≤ a → S1.2.2 a = S.2.2 a) : ks_stOK S1 := fun i q hq => (hg _ (Nat.le_add_right _ _)).trans (h i q hq)
theorem tvR.ag {S S1 : ks_S} (h : tvR S) (hg : ∀ a, 20 ≤ a → a ≤ 26 → S1.2.2 a = S.2.2 a) : tvR S1 := by
  obtain ⟨vy, i1, i2, i9, x, fA, fS, fZ, hA, hS, hZ, c0, c1, c2, c3, c4, c5, c6⟩ := h
  exact ⟨vy, i1, i2, i9, x, fA, fS, fZ, hA, hS, hZ, (hg _ (by decide) (by decide)).trans c0, (hg _ (by decide) (by decide)).trans c1, (hg _ (by decide) (by decide)).trans c2, (hg _ (by decide) (by decide)).trans c3, (hg _ (by decide) (by decide)).trans c4, (hg _ (by decide) (by decide)).trans c5, (hg _ (by decide) (by decide)).trans c6⟩
theorem hs_ag {S S1 : ks_S} (h : hsO S) (hg : ∀ a, 7 ≤ a → a ≤ 13 → S1.2.2 a = S.2.2 a) : hsO S1 := by
  have h9 := hsO_ex (S := (64, 0, S.2.2)) (S1 := (64, 0, fun a => if 7 ≤ a ∧ a ≤ 13 then S1.2.2 a else S.2.2 a)) (L := []) h ⟨Nat.le_refl _, Nat.le_refl _, fun a _ _ => by
    show (if 7 ≤ a ∧ a ≤ 13 then S1.2.2 a else S.2.2 a) = S.2.2 a
    split
    · next c => exact hg a c.1 c.2
    · rfl⟩ (fun x hx => nomatch hx) (Nat.le_refl 64)
  exact h9
theorem dx_ag {S S1 : ks_S} {b : Nat} {D : dTx} (h : dx_ok S b D) (hg : ∀ a, b ≤ a → a ≤ b + 18 → S1.2.2 a = S.2.2 a) : dx_ok S1 b D := by
  obtain ⟨k, m, sz, id, ix, sq, vl, sc, ⟨a1, a2, a3, a4, a5, a6, a7, a8, a9⟩, c⟩ := h
  exact ⟨k, m, sz, id, ix, sq, vl, sc, ⟨(hg _ (by omega) (by omega)).trans a1, (hg _ (by omega) (by omega)).trans a2, (hg _ (by omega) (by omega)).trans a3, (hg _ (by omega) (by omega)).trans a4, (hg _ (by omega) (by omega)).trans a5, (hg _ (by omega) (by omega)).trans a6, (hg _ (by omega) (by omega)).trans a7, fun i hi => (hg _ (by omega) (by omega)).trans (a8 i hi), a9⟩, c⟩
set_option maxRecDepth 100000 in
set_option maxHeartbeats 1600000 in
theorem c_jd_init {l : Launch} {G : ks_G} {d : Nat} {S : ks_S} {B : Nat → Bk} (hGA : ks_GA G) (hb : S.2.2 0 = some (.inr (14, [.null, .null, .null, .null, .null, .null, .null, .null, .null, .null, .null, .null, .int (nI 0), .int (nI 0), .long (lN 0), .int (nI 0)]))) (hS1 : S.1 = 1) (hK : ks_stOK S) : ks_P l G yX11_init mX11_init (d + 10) [.ref 0] S (fun z S' => z = none ∧ S'.1 = 290 ∧ S'.2.1 ≤ S.2.1 + 145000 ∧ S'.2.2 0 = some (jdO 0 0 (lN 1000600) (nI 0)) ∧ ks_stOK S' ∧ bfS S' 1 2 1600 (some []) ∧ (∃ o, bfS S' 3 4 1600 o) ∧ (∃ o, bfS S' 5 6 8000 o) ∧ mcZ S' ∧ tvR S' ∧ (∃ N, tg_ok S' N) ∧ (∃ f, S'.2.2 43 = some (kN 60 f)) ∧ (∃ f, S'.2.2 48 = some (kL 11 f)) ∧ (∃ g, kO g ∧ S'.2.2 49 = some (kB 32 g)) ∧ (∃ f, S'.2.2 50 = some (kN 580 f)) ∧ (∃ f, S'.2.2 51 = some (kN 40 f)) ∧ (∃ g, kO g ∧ S'.2.2 53 = some (kB 384 g)) ∧ (∃ g, kO g ∧ S'.2.2 54 = some (kB 32 g)) ∧ S'.2.2 55 = some (kB 32 (fun _ => 0)) ∧ dfS S' (va_up (fun _ => (lN 0, lN 0, [], [])) 0 fsT) ∧ (adC (fun _ => (284, fsB (va_up (fun _ => (lN 0, lN 0, [], [])) 0 fsT), 0, 0, 2 ^ 256 / (tg_num 545259519 + 1), false, none)) 0 0 (txP (fsB (va_up (fun _ => (lN 0, lN 0, [], [])) 0 fsT)) 0).2.2.1 0 []).length ≤ 180 ∧ (∃ cc, chX S' 1 0 cc (lN 0) (fun _ => (284, fsB (va_up (fun _ => (lN 0, lN 0, [], [])) 0 fsT), 0, 0, 2 ^ 256 / (tg_num 545259519 + 1), false, some (284 + 5, (adC (fun _ => (284, fsB (va_up (fun _ => (lN 0, lN 0, [], [])) 0 fsT), 0, 0, 2 ^ 256 / (tg_num 545259519 + 1), false, none)) 0 0 (txP (fsB (va_up (fun _ => (lN 0, lN 0, [], [])) 0 fsT)) 0).2.2.1 0 []))))) ∧ chF S' 1 (fun _ => (284, fsB (va_up (fun _ => (lN 0, lN 0, [], [])) 0 fsT), 0, 0, 2 ^ 256 / (tg_num 545259519 + 1), false, some (284 + 5, (adC (fun _ => (284, fsB (va_up (fun _ => (lN 0, lN 0, [], [])) 0 fsT), 0, 0, 2 ^ 256 / (tg_num 545259519 + 1), false, none)) 0 0 (txP (fsB (va_up (fun _ => (lN 0, lN 0, [], [])) 0 fsT)) 0).2.2.1 0 [])))) none) := by
  have hkB : 100000 < ks_B := by unfold ks_B; decide
  refine ks_of (by decide) rfl rfl (Nat.le_of_ble_eq_true rfl) ?_
  show ks_X l G mX11_init (d + 10) 0 [(0, .ref 0)] [] S _
  refine ks_aload_n dX11_init_0 rfl rfl ?_
  refine ks_objInit kx_42 kx_43 kx_44 (by omega) (by decide) dX11_init_1 rfl ?_
  refine ks_aload_n dX11_init_4 rfl rfl ?_
  refine ks_newcx (ci := 4) (x := 1) (ty0 := tyX1) (fs := [.null, .int (nI 0), .int (ks_bo false)]) hS1 kx_45 kx_46 kx_2 in_X1 tyX1_ok cl_X1 (fun j hj => by rcases j with _ | _ | _ | j <;> first | rfl | (exfalso; omega)) rfl (by decide) dX11_init_5 rfl (fun T1 q1 => ?_)
  have e1 : T1.2.1 = S.2.1 + 3 := q1.2.1
  refine ks_dup dX11_init_8 rfl rfl ?_
  refine ks_sipush (x := nI 1600) dX11_init_9 (by decide) rfl ?_
  refine ks_callI (n := 1) (M' := mX1_init) (bf_init (d := d + 8) (b := 1) (N := 1600) q1.2.2.1 q1.1 (by decide) (by decide)) rfl rfl kx_47 kx_48 kx_2 kx_49 (by decide +kernel) rfl (by decide) (Nat.le_of_ble_eq_true rfl) rfl dX11_init_12 rfl (fun z1 U1 y1 => ?_)
  obtain ⟨rfl, m1, s1, f1, R1⟩ := y1
  have s1 : U1.2.1 = T1.2.1 + _ := s1
  refine ks_putF (T := TX11) (kf := 0) kx_1053 rfl rfl rfl in_X11 tyX11_ok nmX11 cl_X11 (by decide) ((f1 _ (by decide)).trans ((q1.2.2.2 _ (by decide)).trans hb)) (Nat.le_of_ble_eq_true rfl) rfl rfl rfl rfl dX11_init_15 rfl ?_
  refine ks_aload_n dX11_init_18 rfl rfl ?_
  refine ks_newcx (ci := 4) (x := 3) (ty0 := tyX1) (fs := [.null, .int (nI 0), .int (ks_bo false)]) m1 kx_45 kx_46 kx_2 in_X1 tyX1_ok cl_X1 (fun j hj => by rcases j with _ | _ | _ | j <;> first | rfl | (exfalso; omega)) rfl (by decide) dX11_init_19 rfl (fun T2 q2 => ?_)
  have e2 : T2.2.1 = U1.2.1 + 3 := q2.2.1
  refine ks_dup dX11_init_22 rfl rfl ?_
  refine ks_sipush (x := nI 1600) dX11_init_23 (by decide) rfl ?_
  refine ks_callI (n := 1) (M' := mX1_init) (bf_init (d := d + 8) (b := 3) (N := 1600) q2.2.2.1 q2.1 (by decide) (by decide)) rfl rfl kx_47 kx_48 kx_2 kx_49 (by decide +kernel) rfl (by decide) (Nat.le_of_ble_eq_true rfl) rfl dX11_init_26 rfl (fun z2 U2 y2 => ?_)
  obtain ⟨rfl, m2, s2, f2, R2⟩ := y2
  have s2 : U2.2.1 = T2.2.1 + _ := s2
  refine ks_putF (T := TX11) (kf := 1) kx_1054 rfl rfl rfl in_X11 tyX11_ok nmX11 cl_X11 (by decide) ((f2 _ (by decide)).trans ((q2.2.2.2 _ (by decide)).trans (ks_set_same _ _ _))) (Nat.le_of_ble_eq_true rfl) rfl rfl rfl rfl dX11_init_29 rfl ?_
  refine ks_aload_n dX11_init_32 rfl rfl ?_
  refine ks_newcx (ci := 4) (x := 5) (ty0 := tyX1) (fs := [.null, .int (nI 0), .int (ks_bo false)]) m2 kx_45 kx_46 kx_2 in_X1 tyX1_ok cl_X1 (fun j hj => by rcases j with _ | _ | _ | j <;> first | rfl | (exfalso; omega)) rfl (by decide) dX11_init_33 rfl (fun T3 q3 => ?_)
  have e3 : T3.2.1 = U2.2.1 + 3 := q3.2.1
  refine ks_dup dX11_init_36 rfl rfl ?_
  refine ks_sipush (x := nI 8000) dX11_init_37 (by decide) rfl ?_
  refine ks_callI (n := 1) (M' := mX1_init) (bf_init (d := d + 8) (b := 5) (N := 8000) q3.2.2.1 q3.1 (by decide) (by decide)) rfl rfl kx_47 kx_48 kx_2 kx_49 (by decide +kernel) rfl (by decide) (Nat.le_of_ble_eq_true rfl) rfl dX11_init_40 rfl (fun z3 U3 y3 => ?_)
  obtain ⟨rfl, m3, s3, f3, R3⟩ := y3
  have s3 : U3.2.1 = T3.2.1 + _ := s3
  refine ks_putF (T := TX11) (kf := 2) kx_1055 rfl rfl rfl in_X11 tyX11_ok nmX11 cl_X11 (by decide) ((f3 _ (by decide)).trans ((q3.2.2.2 _ (by decide)).trans (ks_set_same _ _ _))) (Nat.le_of_ble_eq_true rfl) rfl rfl rfl rfl dX11_init_43 rfl ?_
  refine ks_aload_n dX11_init_46 rfl rfl ?_
  refine ks_newcx (ci := 9) (x := 7) (ty0 := tyX6) (fs := [.null, .null, .null, .null, .null, .null]) m3 kx_75 kx_76 kx_3 in_X6 tyX6_ok cl_X6 (fun j hj => by rcases j with _ | _ | _ | _ | _ | _ | j <;> first | rfl | (exfalso; omega)) rfl (by decide) dX11_init_47 rfl (fun T4 q4 => ?_)
  have e4 : T4.2.1 = U3.2.1 + 6 := q4.2.1
  refine ks_dup dX11_init_50 rfl rfl ?_
  refine ks_callIN (n := 0) (M' := mX6_init) (c_hs_init (d := d + 8) q4.2.2.1 q4.1) rfl rfl kx_77 kx_78 kx_3 kx_79 (by decide +kernel) rfl (by decide) (Nat.le_of_ble_eq_true rfl) rfl dX11_init_51 rfl (fun z4 U4 y4 => ?_)
  obtain ⟨rfl, m4, s4, f4, R4⟩ := y4
  have s4 : U4.2.1 = T4.2.1 + _ := s4
  refine ks_putF (T := TX11) (kf := 3) kx_1056 rfl rfl rfl in_X11 tyX11_ok nmX11 cl_X11 (by decide) ((f4 _ (by decide)).trans ((q4.2.2.2 _ (by decide)).trans (ks_set_same _ _ _))) (Nat.le_of_ble_eq_true rfl) rfl rfl rfl rfl dX11_init_54 rfl ?_
  refine ks_aload_n dX11_init_57 rfl rfl ?_
  refine ks_newcx (ci := 6) (x := 14) (ty0 := tyX3) (fs := [.null, .null, .null, .int (ks_bo false)]) m4 kx_101 kx_102 kx_4 in_X3 tyX3_ok cl_X3 (fun j hj => by rcases j with _ | _ | _ | _ | j <;> first | rfl | (exfalso; omega)) rfl (by decide) dX11_init_58 rfl (fun T5 q5 => ?_)
  have e5 : T5.2.1 = U4.2.1 + 4 := q5.2.1
  refine ks_dup dX11_init_61 rfl rfl ?_
  refine ks_callI (n := 0) (M' := mX3_init) (c_cu_init (d := d + 5) q5.2.2.1 q5.1 (hK.ag (fun kk hkk => ((q5.2.2.2 _ (by omega)).trans ((ks_set_ne _ _ (by omega)).trans ((f4 _ (by omega)).trans ((q4.2.2.2 _ (by omega)).trans ((ks_set_ne _ _ (by omega)).trans ((f3 _ (by omega)).trans ((q3.2.2.2 _ (by omega)).trans ((ks_set_ne _ _ (by omega)).trans ((f2 _ (by omega)).trans ((q2.2.2.2 _ (by omega)).trans ((ks_set_ne _ _ (by omega)).trans ((f1 _ (by omega)).trans ((q1.2.2.2 _ (by omega)).trans rfl)))))))))))))))) rfl rfl kx_103 kx_104 kx_4 kx_105 (by decide +kernel) rfl (by decide) (Nat.le_of_ble_eq_true rfl) rfl dX11_init_62 rfl (fun z5 U5 y5 => ?_)
  obtain ⟨rfl, m5, s5, f5, R5⟩ := y5
  have s5 : U5.2.1 = T5.2.1 + _ := s5
  refine ks_putF (T := TX11) (kf := 4) kx_1057 rfl rfl rfl in_X11 tyX11_ok nmX11 cl_X11 (by decide) ((f5 _ (by decide)).trans ((q5.2.2.2 _ (by decide)).trans (ks_set_same _ _ _))) (Nat.le_of_ble_eq_true rfl) rfl rfl rfl rfl dX11_init_65 rfl ?_
  refine ks_aload_n dX11_init_68 rfl rfl ?_
  refine ks_newcx (ci := 13) (x := 20) (ty0 := tyX10) (fs := [.null, .int (nI 0), .int (nI 0), .null, .null, .null, .null, .null, .null, .int (nI 0), .int (nI 0)]) m5 kx_548 kx_549 kx_23 in_X10 tyX10_ok cl_X10 (fun j hj => by rcases j with _ | _ | _ | _ | _ | _ | _ | _ | _ | _ | _ | j <;> first | rfl | (exfalso; omega)) rfl (by decide) dX11_init_69 rfl (fun T6 q6 => ?_)
  have e6 : T6.2.1 = U5.2.1 + 11 := q6.2.1
  refine ks_dup dX11_init_72 rfl rfl ?_
  refine ks_callIN (n := 0) (M' := mX10_init) (c_tv_init (d := d + 8) q6.2.2.1 q6.1) rfl rfl kx_550 kx_551 kx_23 kx_552 (by decide +kernel) rfl (by decide) (Nat.le_of_ble_eq_true rfl) rfl dX11_init_73 rfl (fun z6 U6 y6 => ?_)
  obtain ⟨rfl, m6, s6, f6, R6⟩ := y6
  have s6 : U6.2.1 = T6.2.1 + _ := s6
  refine ks_putF (T := TX11) (kf := 5) kx_1058 rfl rfl rfl in_X11 tyX11_ok nmX11 cl_X11 (by decide) ((f6 _ (by decide)).trans ((q6.2.2.2 _ (by decide)).trans (ks_set_same _ _ _))) (Nat.le_of_ble_eq_true rfl) rfl rfl rfl rfl dX11_init_76 rfl ?_
  refine ks_aload_n dX11_init_79 rfl rfl ?_
  refine ks_newcx (ci := 10) (x := 27) (ty0 := tyX7) (fs := [.null, .null, .null, .null, .null, .null, .null, .null, .int (nI 0), .null, .int (nI 0), .int (nI 0), .int (nI 0), .int (nI 0), .int (nI 0), .int (nI 0), .int (nI 0), .int (nI 0), .int (nI 0), .int (nI 0)]) m6 kx_596 kx_597 kx_24 in_X7 tyX7_ok cl_X7 (fun j hj => by rcases j with _ | _ | _ | _ | _ | _ | _ | _ | _ | _ | _ | _ | _ | _ | _ | _ | _ | _ | _ | _ | j <;> first | rfl | (exfalso; omega)) rfl (by decide) dX11_init_80 rfl (fun T7 q7 => ?_)
  have e7 : T7.2.1 = U6.2.1 + 20 := q7.2.1
  refine ks_dup dX11_init_83 rfl rfl ?_
  refine ks_aload_n dX11_init_84 rfl rfl ?_
  refine ks_getf (T := TX11) (kf := 3) kx_1056 rfl in_X11 cl_X11 (by decide) ((q7.2.2.2 _ (by decide)).trans (ks_set_same _ _ _)) rfl dX11_init_85 rfl ?_
  refine ks_aload_n dX11_init_88 rfl rfl ?_
  refine ks_getf (T := TX11) (kf := 4) kx_1057 rfl in_X11 cl_X11 (by decide) ((q7.2.2.2 _ (by decide)).trans (ks_set_same _ _ _)) rfl dX11_init_89 rfl ?_
  refine ks_callI (n := 2) (M' := mX7_init) (c_mc_init (d := d + 7) q7.2.2.1 q7.1) rfl rfl kx_598 kx_599 kx_24 kx_600 (by decide +kernel) rfl (by decide) (Nat.le_of_ble_eq_true rfl) rfl dX11_init_92 rfl (fun z7 U7 y7 => ?_)
  obtain ⟨rfl, m7, s7, f7, R7⟩ := y7
  have s7 : U7.2.1 = T7.2.1 + _ := s7
  refine ks_putF (T := TX11) (kf := 6) kx_1059 rfl rfl rfl in_X11 tyX11_ok nmX11 cl_X11 (by decide) ((f7 _ (by decide)).trans ((q7.2.2.2 _ (by decide)).trans (ks_set_same _ _ _))) (Nat.le_of_ble_eq_true rfl) rfl rfl rfl rfl dX11_init_95 rfl ?_
  refine ks_aload_n dX11_init_98 rfl rfl ?_
  refine ks_newcx (ci := 5) (x := 41) (ty0 := tyX2) (fs := [.null, .null, .null, .int (nI 0), .int (nI 0), .null, .null, .null, .null, .null, .null, .null, .int (nI 0), .long (lN 0)]) m7 kx_705 kx_706 kx_26 in_X2 tyX2_ok cl_X2 (fun j hj => by rcases j with _ | _ | _ | _ | _ | _ | _ | _ | _ | _ | _ | _ | _ | _ | j <;> first | rfl | (exfalso; omega)) rfl (by decide) dX11_init_99 rfl (fun T8 q8 => ?_)
  have e8 : T8.2.1 = U7.2.1 + 14 := q8.2.1
  refine ks_dup dX11_init_102 rfl rfl ?_
  refine ks_aload_n dX11_init_103 rfl rfl ?_
  refine ks_getf (T := TX11) (kf := 3) kx_1056 rfl in_X11 cl_X11 (by decide) ((q8.2.2.2 _ (by decide)).trans (ks_set_same _ _ _)) rfl dX11_init_104 rfl ?_
  refine ks_aload_n dX11_init_107 rfl rfl ?_
  refine ks_getf (T := TX11) (kf := 6) kx_1059 rfl in_X11 cl_X11 (by decide) ((q8.2.2.2 _ (by decide)).trans (ks_set_same _ _ _)) rfl dX11_init_108 rfl ?_
  refine ks_aload_n dX11_init_111 rfl rfl ?_
  refine ks_getf (T := TX11) (kf := 5) kx_1058 rfl in_X11 cl_X11 (by decide) ((q8.2.2.2 _ (by decide)).trans (ks_set_same _ _ _)) rfl dX11_init_112 rfl ?_
  refine ks_callI (n := 3) (M' := mX2_init) (c_ch_init (d := d + 7) (B := B) q8.2.2.1 q8.1) rfl rfl kx_707 kx_708 kx_26 kx_709 (by decide +kernel) rfl (by decide) (Nat.le_of_ble_eq_true rfl) rfl dX11_init_115 rfl (fun z8 U8 y8 => ?_)
  obtain ⟨rfl, m8, s8, f8, R8⟩ := y8
  have s8 : U8.2.1 = T8.2.1 + _ := s8
  refine ks_putF (T := TX11) (kf := 7) kx_1060 rfl rfl rfl in_X11 tyX11_ok nmX11 cl_X11 (by decide) ((f8 _ (by decide)).trans ((q8.2.2.2 _ (by decide)).trans (ks_set_same _ _ _))) (Nat.le_of_ble_eq_true rfl) rfl rfl rfl rfl dX11_init_118 rfl ?_
  refine ks_aload_n dX11_init_121 rfl rfl ?_
  refine ks_bipush (x := nI 12) dX11_init_122 (by decide) rfl ?_
  refine ks_anewx (t := 6) (N := 12) (x := 52) m8 rfl kx_777 (fun U h => h.2.2.2.1) (by decide) (by decide) dX11_init_124 rfl (fun T9 q9 => ?_)
  have e9 : T9.2.1 = U8.2.1 + 12 := q9.2.1
  refine ks_putF (T := TX11) (kf := 8) kx_1061 rfl rfl rfl in_X11 tyX11_ok nmX11 cl_X11 (by decide) ((q9.2.2.2 _ (by decide)).trans (ks_set_same _ _ _)) (Nat.le_of_ble_eq_true rfl) rfl rfl rfl rfl dX11_init_127 rfl ?_
  refine ks_aload_n dX11_init_130 rfl rfl ?_
  refine ks_sipush (x := nI 384) dX11_init_131 (by decide) rfl ?_
  refine ks_newBx (N := 384) (x := 53) q9.1 kx_74 (by decide) (by decide) dX11_init_134 rfl (fun T10 q10 => ?_)
  have e10 : T10.2.1 = T9.2.1 + 384 := q10.2.1
  refine ks_putF (T := TX11) (kf := 9) kx_1062 rfl rfl rfl in_X11 tyX11_ok nmX11 cl_X11 (by decide) ((q10.2.2.2 _ (by decide)).trans (ks_set_same _ _ _)) (Nat.le_of_ble_eq_true rfl) rfl rfl rfl rfl dX11_init_136 rfl ?_
  refine ks_aload_n dX11_init_139 rfl rfl ?_
  refine ks_bipush (x := nI 32) dX11_init_140 (by decide) rfl ?_
  refine ks_newBx (N := 32) (x := 54) q10.1 kx_74 (by decide) (by decide) dX11_init_142 rfl (fun T11 q11 => ?_)
  have e11 : T11.2.1 = T10.2.1 + 32 := q11.2.1
  refine ks_putF (T := TX11) (kf := 10) kx_1063 rfl rfl rfl in_X11 tyX11_ok nmX11 cl_X11 (by decide) ((q11.2.2.2 _ (by decide)).trans (ks_set_same _ _ _)) (Nat.le_of_ble_eq_true rfl) rfl rfl rfl rfl dX11_init_144 rfl ?_
  refine ks_aload_n dX11_init_147 rfl rfl ?_
  refine ks_bipush (x := nI 32) dX11_init_148 (by decide) rfl ?_
  refine ks_newBx (N := 32) (x := 55) q11.1 kx_74 (by decide) (by decide) dX11_init_150 rfl (fun T12 q12 => ?_)
  have e12 : T12.2.1 = T11.2.1 + 32 := q12.2.1
  refine ks_putF (T := TX11) (kf := 11) kx_1064 rfl rfl rfl in_X11 tyX11_ok nmX11 cl_X11 (by decide) ((q12.2.2.2 _ (by decide)).trans (ks_set_same _ _ _)) (Nat.le_of_ble_eq_true rfl) rfl rfl rfl rfl dX11_init_152 rfl ?_
  refine ks_iconst (x := nI 0) dX11_init_155 (by decide) rfl ?_
  refine ks_istore_n dX11_init_156 (by decide) rfl ?_
  refine ks_sub [(1, _), (0, _)] rfl ?_
  obtain ⟨S0, hS0⟩ : ∃ S0 : ks_S, S0 = ks_set T12 0 (jdO 0 0 (lN 0) (nI 0)) := ⟨_, rfl⟩
  refine ks_tS (S' := S0) hS0.symm ?_
  have o0 : S0.2.2 0 = some (jdO 0 0 (lN 0) (nI 0)) := by rw [hS0]; exact ks_set_same _ _ _
  have n0 : S0.1 = 56 := by rw [hS0]; exact q12.1
  have sz0 : S0.2.1 = S.2.1 + 52947 := by
    rw [hS0]
    show T12.2.1 = _
    omega
  have K0 : ks_stOK S0 := by rw [hS0]; exact hK.ag (fun kk hkk => ((ks_set_ne _ _ (by omega)).trans ((q12.2.2.2 _ (by omega)).trans ((ks_set_ne _ _ (by omega)).trans ((q11.2.2.2 _ (by omega)).trans ((ks_set_ne _ _ (by omega)).trans ((q10.2.2.2 _ (by omega)).trans ((ks_set_ne _ _ (by omega)).trans ((q9.2.2.2 _ (by omega)).trans ((ks_set_ne _ _ (by omega)).trans ((f8 _ (by omega)).trans ((q8.2.2.2 _ (by omega)).trans ((ks_set_ne _ _ (by omega)).trans ((f7 _ (by omega)).trans ((q7.2.2.2 _ (by omega)).trans ((ks_set_ne _ _ (by omega)).trans ((f6 _ (by omega)).trans ((q6.2.2.2 _ (by omega)).trans ((ks_set_ne _ _ (by omega)).trans ((f5 _ (by omega)).trans ((q5.2.2.2 _ (by omega)).trans ((ks_set_ne _ _ (by omega)).trans ((f4 _ (by omega)).trans ((q4.2.2.2 _ (by omega)).trans ((ks_set_ne _ _ (by omega)).trans ((f3 _ (by omega)).trans ((q3.2.2.2 _ (by omega)).trans ((ks_set_ne _ _ (by omega)).trans ((f2 _ (by omega)).trans ((q2.2.2.2 _ (by omega)).trans ((ks_set_ne _ _ (by omega)).trans ((f1 _ (by omega)).trans ((q1.2.2.2 _ (by omega)).trans rfl)))))))))))))))))))))))))))))))))
  have b1 : bfS S0 1 2 1600 (some []) := by rw [hS0]; exact R1.ag ((ks_set_ne _ _ (by decide)).trans ((q12.2.2.2 _ (by decide)).trans ((ks_set_ne _ _ (by decide)).trans ((q11.2.2.2 _ (by decide)).trans ((ks_set_ne _ _ (by decide)).trans ((q10.2.2.2 _ (by decide)).trans ((ks_set_ne _ _ (by decide)).trans ((q9.2.2.2 _ (by decide)).trans ((ks_set_ne _ _ (by decide)).trans ((f8 _ (by decide)).trans ((q8.2.2.2 _ (by decide)).trans ((ks_set_ne _ _ (by decide)).trans ((f7 _ (by decide)).trans ((q7.2.2.2 _ (by decide)).trans ((ks_set_ne _ _ (by decide)).trans ((f6 _ (by decide)).trans ((q6.2.2.2 _ (by decide)).trans ((ks_set_ne _ _ (by decide)).trans ((f5 _ (by decide)).trans ((q5.2.2.2 _ (by decide)).trans ((ks_set_ne _ _ (by decide)).trans ((f4 _ (by decide)).trans ((q4.2.2.2 _ (by decide)).trans ((ks_set_ne _ _ (by decide)).trans ((f3 _ (by decide)).trans ((q3.2.2.2 _ (by decide)).trans ((ks_set_ne _ _ (by decide)).trans ((f2 _ (by decide)).trans ((q2.2.2.2 _ (by decide)).trans ((ks_set_ne _ _ (by decide)).trans rfl)))))))))))))))))))))))))))))) ((ks_set_ne _ _ (by decide)).trans ((q12.2.2.2 _ (by decide)).trans ((ks_set_ne _ _ (by decide)).trans ((q11.2.2.2 _ (by decide)).trans ((ks_set_ne _ _ (by decide)).trans ((q10.2.2.2 _ (by decide)).trans ((ks_set_ne _ _ (by decide)).trans ((q9.2.2.2 _ (by decide)).trans ((ks_set_ne _ _ (by decide)).trans ((f8 _ (by decide)).trans ((q8.2.2.2 _ (by decide)).trans ((ks_set_ne _ _ (by decide)).trans ((f7 _ (by decide)).trans ((q7.2.2.2 _ (by decide)).trans ((ks_set_ne _ _ (by decide)).trans ((f6 _ (by decide)).trans ((q6.2.2.2 _ (by decide)).trans ((ks_set_ne _ _ (by decide)).trans ((f5 _ (by decide)).trans ((q5.2.2.2 _ (by decide)).trans ((ks_set_ne _ _ (by decide)).trans ((f4 _ (by decide)).trans ((q4.2.2.2 _ (by decide)).trans ((ks_set_ne _ _ (by decide)).trans ((f3 _ (by decide)).trans ((q3.2.2.2 _ (by decide)).trans ((ks_set_ne _ _ (by decide)).trans ((f2 _ (by decide)).trans ((q2.2.2.2 _ (by decide)).trans ((ks_set_ne _ _ (by decide)).trans rfl))))))))))))))))))))))))))))))
  have b3 : bfS S0 3 4 1600 (some []) := by rw [hS0]; exact R2.ag ((ks_set_ne _ _ (by decide)).trans ((q12.2.2.2 _ (by decide)).trans ((ks_set_ne _ _ (by decide)).trans ((q11.2.2.2 _ (by decide)).trans ((ks_set_ne _ _ (by decide)).trans ((q10.2.2.2 _ (by decide)).trans ((ks_set_ne _ _ (by decide)).trans ((q9.2.2.2 _ (by decide)).trans ((ks_set_ne _ _ (by decide)).trans ((f8 _ (by decide)).trans ((q8.2.2.2 _ (by decide)).trans ((ks_set_ne _ _ (by decide)).trans ((f7 _ (by decide)).trans ((q7.2.2.2 _ (by decide)).trans ((ks_set_ne _ _ (by decide)).trans ((f6 _ (by decide)).trans ((q6.2.2.2 _ (by decide)).trans ((ks_set_ne _ _ (by decide)).trans ((f5 _ (by decide)).trans ((q5.2.2.2 _ (by decide)).trans ((ks_set_ne _ _ (by decide)).trans ((f4 _ (by decide)).trans ((q4.2.2.2 _ (by decide)).trans ((ks_set_ne _ _ (by decide)).trans ((f3 _ (by decide)).trans ((q3.2.2.2 _ (by decide)).trans ((ks_set_ne _ _ (by decide)).trans rfl))))))))))))))))))))))))))) ((ks_set_ne _ _ (by decide)).trans ((q12.2.2.2 _ (by decide)).trans ((ks_set_ne _ _ (by decide)).trans ((q11.2.2.2 _ (by decide)).trans ((ks_set_ne _ _ (by decide)).trans ((q10.2.2.2 _ (by decide)).trans ((ks_set_ne _ _ (by decide)).trans ((q9.2.2.2 _ (by decide)).trans ((ks_set_ne _ _ (by decide)).trans ((f8 _ (by decide)).trans ((q8.2.2.2 _ (by decide)).trans ((ks_set_ne _ _ (by decide)).trans ((f7 _ (by decide)).trans ((q7.2.2.2 _ (by decide)).trans ((ks_set_ne _ _ (by decide)).trans ((f6 _ (by decide)).trans ((q6.2.2.2 _ (by decide)).trans ((ks_set_ne _ _ (by decide)).trans ((f5 _ (by decide)).trans ((q5.2.2.2 _ (by decide)).trans ((ks_set_ne _ _ (by decide)).trans ((f4 _ (by decide)).trans ((q4.2.2.2 _ (by decide)).trans ((ks_set_ne _ _ (by decide)).trans ((f3 _ (by decide)).trans ((q3.2.2.2 _ (by decide)).trans ((ks_set_ne _ _ (by decide)).trans rfl)))))))))))))))))))))))))))
  have b5 : bfS S0 5 6 8000 (some []) := by rw [hS0]; exact R3.ag ((ks_set_ne _ _ (by decide)).trans ((q12.2.2.2 _ (by decide)).trans ((ks_set_ne _ _ (by decide)).trans ((q11.2.2.2 _ (by decide)).trans ((ks_set_ne _ _ (by decide)).trans ((q10.2.2.2 _ (by decide)).trans ((ks_set_ne _ _ (by decide)).trans ((q9.2.2.2 _ (by decide)).trans ((ks_set_ne _ _ (by decide)).trans ((f8 _ (by decide)).trans ((q8.2.2.2 _ (by decide)).trans ((ks_set_ne _ _ (by decide)).trans ((f7 _ (by decide)).trans ((q7.2.2.2 _ (by decide)).trans ((ks_set_ne _ _ (by decide)).trans ((f6 _ (by decide)).trans ((q6.2.2.2 _ (by decide)).trans ((ks_set_ne _ _ (by decide)).trans ((f5 _ (by decide)).trans ((q5.2.2.2 _ (by decide)).trans ((ks_set_ne _ _ (by decide)).trans ((f4 _ (by decide)).trans ((q4.2.2.2 _ (by decide)).trans ((ks_set_ne _ _ (by decide)).trans rfl)))))))))))))))))))))))) ((ks_set_ne _ _ (by decide)).trans ((q12.2.2.2 _ (by decide)).trans ((ks_set_ne _ _ (by decide)).trans ((q11.2.2.2 _ (by decide)).trans ((ks_set_ne _ _ (by decide)).trans ((q10.2.2.2 _ (by decide)).trans ((ks_set_ne _ _ (by decide)).trans ((q9.2.2.2 _ (by decide)).trans ((ks_set_ne _ _ (by decide)).trans ((f8 _ (by decide)).trans ((q8.2.2.2 _ (by decide)).trans ((ks_set_ne _ _ (by decide)).trans ((f7 _ (by decide)).trans ((q7.2.2.2 _ (by decide)).trans ((ks_set_ne _ _ (by decide)).trans ((f6 _ (by decide)).trans ((q6.2.2.2 _ (by decide)).trans ((ks_set_ne _ _ (by decide)).trans ((f5 _ (by decide)).trans ((q5.2.2.2 _ (by decide)).trans ((ks_set_ne _ _ (by decide)).trans ((f4 _ (by decide)).trans ((q4.2.2.2 _ (by decide)).trans ((ks_set_ne _ _ (by decide)).trans rfl))))))))))))))))))))))))
  have fr4 : ∀ a4, 7 ≤ a4 → a4 ≤ 13 → S0.2.2 a4 = U4.2.2 a4 := fun a4 h1 h2 => by rw [hS0]; exact ((ks_set_ne _ _ (by omega)).trans ((q12.2.2.2 _ (by omega)).trans ((ks_set_ne _ _ (by omega)).trans ((q11.2.2.2 _ (by omega)).trans ((ks_set_ne _ _ (by omega)).trans ((q10.2.2.2 _ (by omega)).trans ((ks_set_ne _ _ (by omega)).trans ((q9.2.2.2 _ (by omega)).trans ((ks_set_ne _ _ (by omega)).trans ((f8 _ (by omega)).trans ((q8.2.2.2 _ (by omega)).trans ((ks_set_ne _ _ (by omega)).trans ((f7 _ (by omega)).trans ((q7.2.2.2 _ (by omega)).trans ((ks_set_ne _ _ (by omega)).trans ((f6 _ (by omega)).trans ((q6.2.2.2 _ (by omega)).trans ((ks_set_ne _ _ (by omega)).trans ((f5 _ (by omega)).trans ((q5.2.2.2 _ (by omega)).trans ((ks_set_ne _ _ (by omega)).trans rfl)))))))))))))))))))))
  have hh0 : hsO S0 := hs_ag R4 fr4
  have cu0 : cuI S0 := by rw [hS0]; exact R5.ag (fun a5 h1 h2 => ((ks_set_ne _ _ (by omega)).trans ((q12.2.2.2 _ (by omega)).trans ((ks_set_ne _ _ (by omega)).trans ((q11.2.2.2 _ (by omega)).trans ((ks_set_ne _ _ (by omega)).trans ((q10.2.2.2 _ (by omega)).trans ((ks_set_ne _ _ (by omega)).trans ((q9.2.2.2 _ (by omega)).trans ((ks_set_ne _ _ (by omega)).trans ((f8 _ (by omega)).trans ((q8.2.2.2 _ (by omega)).trans ((ks_set_ne _ _ (by omega)).trans ((f7 _ (by omega)).trans ((q7.2.2.2 _ (by omega)).trans ((ks_set_ne _ _ (by omega)).trans ((f6 _ (by omega)).trans ((q6.2.2.2 _ (by omega)).trans ((ks_set_ne _ _ (by omega)).trans rfl)))))))))))))))))))
  have tv0 : tvR S0 := by rw [hS0]; exact R6.ag (fun a6 h1 h2 => ((ks_set_ne _ _ (by omega)).trans ((q12.2.2.2 _ (by omega)).trans ((ks_set_ne _ _ (by omega)).trans ((q11.2.2.2 _ (by omega)).trans ((ks_set_ne _ _ (by omega)).trans ((q10.2.2.2 _ (by omega)).trans ((ks_set_ne _ _ (by omega)).trans ((q9.2.2.2 _ (by omega)).trans ((ks_set_ne _ _ (by omega)).trans ((f8 _ (by omega)).trans ((q8.2.2.2 _ (by omega)).trans ((ks_set_ne _ _ (by omega)).trans ((f7 _ (by omega)).trans ((q7.2.2.2 _ (by omega)).trans ((ks_set_ne _ _ (by omega)).trans rfl))))))))))))))))
  obtain ⟨⟨xs, ys, us, M1⟩, ⟨dn, M2⟩, ⟨g28, k28, M3⟩, ⟨o39, M4⟩, ⟨o37, M5⟩, vw, ji, vc, j1, j2, j3, j4, j5, j6, i1, i2, i3, i4, M6⟩ := R7
  have fr7 : ∀ a7, 27 ≤ a7 → a7 ≤ 40 → S0.2.2 a7 = U7.2.2 a7 := fun a7 h1 h2 => by rw [hS0]; exact ((ks_set_ne _ _ (by omega)).trans ((q12.2.2.2 _ (by omega)).trans ((ks_set_ne _ _ (by omega)).trans ((q11.2.2.2 _ (by omega)).trans ((ks_set_ne _ _ (by omega)).trans ((q10.2.2.2 _ (by omega)).trans ((ks_set_ne _ _ (by omega)).trans ((q9.2.2.2 _ (by omega)).trans ((ks_set_ne _ _ (by omega)).trans ((f8 _ (by omega)).trans ((q8.2.2.2 _ (by omega)).trans ((ks_set_ne _ _ (by omega)).trans rfl))))))))))))
  have Z0 : mcZ S0 := ⟨⟨cu0, hh0, ⟨g28, k28, (fr7 _ (by decide) (by decide)).trans M3⟩, ⟨o39, M4.ag (fr7 _ (by decide) (by decide)) (fr7 _ (by decide) (by decide))⟩, o37, M5.ag (fr7 _ (by decide) (by decide)) (fr7 _ (by decide) (by decide))⟩, ⟨xs, ys, us, M1.ag (fun a h1 h2 => fr7 a (by omega) (by omega))⟩, ⟨dn, (fr7 _ (by decide) (by decide)).trans M2⟩, vw, ji, vc, j1, j2, j3, j4, j5, j6, i1, i2, i3, i4, (fr7 _ (by decide) (by decide)).trans M6⟩
  obtain ⟨C1, C2, C3, ⟨f43, C4⟩, ⟨f48, C5⟩, ⟨g49, k49, C6⟩, C7, ⟨f51, C8⟩⟩ := R8
  have fr8 : ∀ a8, 41 ≤ a8 → a8 ≤ 51 → S0.2.2 a8 = U8.2.2 a8 := fun a8 h1 h2 => by rw [hS0]; exact ((ks_set_ne _ _ (by omega)).trans ((q12.2.2.2 _ (by omega)).trans ((ks_set_ne _ _ (by omega)).trans ((q11.2.2.2 _ (by omega)).trans ((ks_set_ne _ _ (by omega)).trans ((q10.2.2.2 _ (by omega)).trans ((ks_set_ne _ _ (by omega)).trans ((q9.2.2.2 _ (by omega)).trans ((ks_set_ne _ _ (by omega)).trans rfl)))))))))
  have X0 : chX S0 0 0 (nI 0) (lN 0) B := ⟨(fr8 _ (by decide) (by decide)).trans C1.1, by
    obtain ⟨-, ⟨bf, g1, g2⟩, -⟩ := C1
    exact ⟨bf, (fr8 _ (by decide) (by decide)).trans g1, g2⟩, fun i hi => absurd hi (Nat.not_lt_zero i), by decide⟩
  have F0 : chF S0 0 B none := C2.ag (fr8 _ (by decide) (by decide))
  have Tg0 : tg_ok S0 0 := C3.ag (fun a h1 h2 => fr8 a (by omega) (by omega))
  have L0 : coS S0 [] := by
    obtain ⟨f, g1, g2, g3⟩ := C7
    exact ⟨f, (fr8 _ (by decide) (by decide)).trans g1, g2, g3⟩
  have e43 := (fr8 43 (by decide) (by decide)).trans C4
  have e48 := (fr8 48 (by decide) (by decide)).trans C5
  have e49 := (fr8 49 (by decide) (by decide)).trans C6
  have e51 := (fr8 51 (by decide) (by decide)).trans C8
  have e52 : S0.2.2 52 = some (kA 6 12 (fun j => if j < 0 then some (56 + 19 * j) else none)) := by
    rw [show (fun j => if j < 0 then some (56 + 19 * j) else none) = fun _ => none from by funext j; exact if_neg (Nat.not_lt_zero j), hS0]
    exact ((ks_set_ne _ _ (by decide)).trans ((q12.2.2.2 _ (by decide)).trans ((ks_set_ne _ _ (by decide)).trans ((q11.2.2.2 _ (by decide)).trans ((ks_set_ne _ _ (by decide)).trans ((q10.2.2.2 _ (by decide)).trans ((ks_set_ne _ _ (by decide)).trans q9.2.2.1)))))))
  have e53 : S0.2.2 53 = some (kB 384 (fun _ => 0)) := by rw [hS0]; exact ((ks_set_ne _ _ (by decide)).trans ((q12.2.2.2 _ (by decide)).trans ((ks_set_ne _ _ (by decide)).trans ((q11.2.2.2 _ (by decide)).trans ((ks_set_ne _ _ (by decide)).trans q10.2.2.1)))))
  have e54 : S0.2.2 54 = some (kB 32 (fun _ => 0)) := by rw [hS0]; exact ((ks_set_ne _ _ (by decide)).trans ((q12.2.2.2 _ (by decide)).trans ((ks_set_ne _ _ (by decide)).trans q11.2.2.1)))
  have e55 : S0.2.2 55 = some (kB 32 (fun _ => 0)) := by rw [hS0]; exact ((ks_set_ne _ _ (by decide)).trans q12.2.2.1)
  clear hS0
  have loop : ∀ (u i : Nat) (S1 : ks_S), i + u = 12 → S1.1 = 56 + 19 * i → S1.2.1 = S0.2.1 + i * 7444 → (∀ a, (a < 56 ∧ a ≠ 52) ∨ ks_B ≤ a → S1.2.2 a = S0.2.2 a) → S1.2.2 52 = some (kA 6 12 (fun j => if j < i then some (56 + 19 * j) else none)) → (∀ j, j < i → dx_ok S1 (56 + 19 * j) (lN 0, lN 0, [], [])) → ks_X l G mX11_init (d + 10) 157 [(0, .ref 0), (1, .int (nI i))] [] S1 (fun z S' => z = none ∧ S'.1 = 290 ∧ S'.2.1 ≤ S.2.1 + 145000 ∧ S'.2.2 0 = some (jdO 0 0 (lN 1000600) (nI 0)) ∧ ks_stOK S' ∧ bfS S' 1 2 1600 (some []) ∧ (∃ o, bfS S' 3 4 1600 o) ∧ (∃ o, bfS S' 5 6 8000 o) ∧ mcZ S' ∧ tvR S' ∧ (∃ N, tg_ok S' N) ∧ (∃ f, S'.2.2 43 = some (kN 60 f)) ∧ (∃ f, S'.2.2 48 = some (kL 11 f)) ∧ (∃ g, kO g ∧ S'.2.2 49 = some (kB 32 g)) ∧ (∃ f, S'.2.2 50 = some (kN 580 f)) ∧ (∃ f, S'.2.2 51 = some (kN 40 f)) ∧ (∃ g, kO g ∧ S'.2.2 53 = some (kB 384 g)) ∧ (∃ g, kO g ∧ S'.2.2 54 = some (kB 32 g)) ∧ S'.2.2 55 = some (kB 32 (fun _ => 0)) ∧ dfS S' (va_up (fun _ => (lN 0, lN 0, [], [])) 0 fsT) ∧ (adC (fun _ => (284, fsB (va_up (fun _ => (lN 0, lN 0, [], [])) 0 fsT), 0, 0, 2 ^ 256 / (tg_num 545259519 + 1), false, none)) 0 0 (txP (fsB (va_up (fun _ => (lN 0, lN 0, [], [])) 0 fsT)) 0).2.2.1 0 []).length ≤ 180 ∧ (∃ cc, chX S' 1 0 cc (lN 0) (fun _ => (284, fsB (va_up (fun _ => (lN 0, lN 0, [], [])) 0 fsT), 0, 0, 2 ^ 256 / (tg_num 545259519 + 1), false, some (284 + 5, (adC (fun _ => (284, fsB (va_up (fun _ => (lN 0, lN 0, [], [])) 0 fsT), 0, 0, 2 ^ 256 / (tg_num 545259519 + 1), false, none)) 0 0 (txP (fsB (va_up (fun _ => (lN 0, lN 0, [], [])) 0 fsT)) 0).2.2.1 0 []))))) ∧ chF S' 1 (fun _ => (284, fsB (va_up (fun _ => (lN 0, lN 0, [], [])) 0 fsT), 0, 0, 2 ^ 256 / (tg_num 545259519 + 1), false, some (284 + 5, (adC (fun _ => (284, fsB (va_up (fun _ => (lN 0, lN 0, [], [])) 0 fsT), 0, 0, 2 ^ 256 / (tg_num 545259519 + 1), false, none)) 0 0 (txP (fsB (va_up (fun _ => (lN 0, lN 0, [], [])) 0 fsT)) 0).2.2.1 0 [])))) none) := by
    intro u
    induction u with
    | zero =>
      intro i S1 hi n1 sz1 fr e52a hdx
      obtain rfl : i = 12 := hi
      have o1 := (fr 0 (by decide)).trans o0
      refine ks_iload_n dX11_init_157 rfl rfl ?_
      refine ks_bipush (x := nI 12) dX11_init_158 (by decide) rfl ?_
      refine ks_icmp_geN (tgt := 182) (by decide) (by decide) dX11_init_160 (by decide) rfl (fun _ => ?_) (fun h => absurd h (by decide))
      refine ks_aload_n dX11_init_182 rfl rfl ?_
      have frA : ∀ a, a < 52 → S1.2.2 a = S0.2.2 a := fun a ha => fr a (Or.inl ⟨by omega, by omega⟩)
      have D1 : dfS S1 (fun _ => (lN 0, lN 0, [], [])) := ⟨e52a, hdx⟩
      have K1 := K0.ag (fun a ha => fr a (Or.inr ha))
      have X1 : chX S1 0 0 (nI 0) (lN 0) B := ⟨(frA _ (by decide)).trans X0.1, by
        obtain ⟨-, ⟨bf, g1, g2⟩, -⟩ := X0
        exact ⟨bf, (frA _ (by decide)).trans g1, g2⟩, fun i hi => absurd hi (Nat.not_lt_zero i), by decide⟩
      have L1 : coS S1 [] := by
        obtain ⟨f, g1, g2, g3⟩ := L0
        exact ⟨f, (frA _ (by decide)).trans g1, g2, g3⟩
      have hh1 := hs_ag hh0 (fun a h1 h2 => frA a (by omega))
      have tv1 := tv0.ag (fun a h1 h2 => frA a (by omega))
      have Tg1 := Tg0.ag (fun a h1 h2 => frA a (by omega))
      refine ks_callV (n := 0) (M' := mX11_keepFirstBlock) (c_jd_keepFirst (d := d) o1 (b1.ag (frA _ (by decide)) (frA _ (by decide))) D1 K1 hh1 tv1 (b5.ag (frA _ (by decide)) (frA _ (by decide))) (b3.ag (frA _ (by decide)) (frA _ (by decide))) ((fr 53 (by decide)).trans e53) kO_zero ((fr 54 (by decide)).trans e54) kO_zero ((fr 55 (by decide)).trans e55) Tg1 X1 (F0.ag (frA _ (by decide))) L1 (by omega)) o1 cl_X11 rfl kx_820 kx_822 kxp_4 kx_1 kx_823 (by decide +kernel) rfl (by decide) (Nat.le_of_ble_eq_true rfl) rfl dX11_init_183 rfl (fun z9 T9 y9 => ?_)
      obtain ⟨rfl, ex, q1, q2, q3, hh9, R9, Tg9, h50, t9, d9, w9, g53, g54, D9, al, ⟨cc9, X9⟩, F9⟩ := y9
      rw [show S1.1 = 284 by omega] at q1 al X9 F9
      have q3 : T9.2.2 0 = some (jdO 1 0 (lN 1000000) (nI 0)) := q3
      refine ks_aload_n dX11_init_186 rfl rfl ?_
      refine ks_iconst (x := nI 0) dX11_init_187 (by decide) rfl ?_
      refine ks_putf (T := TX11) (kf := 12) kx_1065 rfl in_X11 tyX11_ok nmX11 cl_X11 (by decide) q3 (Nat.le_of_ble_eq_true rfl) rfl rfl rfl rfl dX11_init_188 rfl ?_
      refine ks_aload_n dX11_init_191 rfl rfl ?_
      refine ks_ldc2 dX11_init_192 kx_1052 rfl ?_
      refine ks_tl (y := lN 1000600) rfl ?_
      refine ks_putf (T := TX11) (kf := 14) kx_1067 rfl in_X11 tyX11_ok nmX11 cl_X11 (by decide) (ks_set_same _ _ _) (Nat.le_of_ble_eq_true rfl) rfl rfl rfl rfl dX11_init_195 rfl ?_
      obtain ⟨SE, hSE⟩ : ∃ SE : ks_S, SE = ks_set T9 0 (jdO 0 0 (lN 1000600) (nI 0)) := ⟨_, rfl⟩
      refine ks_tS (S' := SE) (by rw [hSE, ks_set_set]; rfl) ?_
      refine ks_ret rfl dX11_init_198 ?_
      have uE : ks_up T9 SE [0] := by rw [hSE]; exact ks_up_set _ _ (List.mem_singleton.mpr rfl)
      have nin : ∀ x, x ∈ [14, 15, 16, 17, 18, 19, 27, 28, 29, 30, 31, 32, 33, 34, 35, 36, 37, 38, 39, 40, 43, 48, 49, 51, 55] → x ∉ (0 :: [1, 2, 3, 4, 5, 6, 8, 9, 10, 11, 12, 13, 20, 21, 22, 23, 24, 25, 26, 41, 42, 45, 46, 47, 50, 53, 54] ++ dxL 56) := by
        intro x hx hm
        rcases List.mem_append.mp hm with h | h
        · exact (by decide : ∀ x, x ∈ [14, 15, 16, 17, 18, 19, 27, 28, 29, 30, 31, 32, 33, 34, 35, 36, 37, 38, 39, 40, 43, 48, 49, 51, 55] → x ∉ 0 :: [1, 2, 3, 4, 5, 6, 8, 9, 10, 11, 12, 13, 20, 21, 22, 23, 24, 25, 26, 41, 42, 45, 46, 47, 50, 53, 54]) x hx h
        · have := dxL_me h
          have := (by decide : ∀ x, x ∈ [14, 15, 16, 17, 18, 19, 27, 28, 29, 30, 31, 32, 33, 34, 35, 36, 37, 38, 39, 40, 43, 48, 49, 51, 55] → x < 56) x hx
          omega
      have fE : ∀ x, x ∈ [14, 15, 16, 17, 18, 19, 27, 28, 29, 30, 31, 32, 33, 34, 35, 36, 37, 38, 39, 40, 43, 48, 49, 51, 55] → SE.2.2 x = S0.2.2 x := by
        intro x hx
        have x56 := (by decide : ∀ x, x ∈ [14, 15, 16, 17, 18, 19, 27, 28, 29, 30, 31, 32, 33, 34, 35, 36, 37, 38, 39, 40, 43, 48, 49, 51, 55] → x < 56 ∧ x ≠ 52 ∧ x ≠ 0) x hx
        rw [uE.2.2 x (by rw [List.mem_singleton]; omega), ex.2.2 x (nin x hx) (by omega)]
        exact fr x (Or.inl ⟨x56.1, x56.2.1⟩)
      have KE : ks_stOK SE := uE.ex.st (ex.st K1 (fun a ha => by
        rcases List.mem_append.mp ha with h | h
        · have := (by decide : ∀ x, x ∈ 0 :: [1, 2, 3, 4, 5, 6, 8, 9, 10, 11, 12, 13, 20, 21, 22, 23, 24, 25, 26, 41, 42, 45, 46, 47, 50, 53, 54] → x < 56) a h
          omega
        · have := dxL_me h
          omega)) (by unfold ks_B; decide)
      have sT9 : 64 ≤ T9.1 := by omega
      have hhE := hsO_ex hh9 uE.ex (by decide) sT9
      have ZE : mcZ SE := by
        obtain ⟨⟨c1, -, ⟨g28, k28, c3⟩, ⟨o39, c4⟩, o37, c5⟩, ⟨xs, ys, us, c6⟩, ⟨dn, c7⟩, vw, ji, vc, j1, j2, j3, j4, j5, j6, i1, i2, i3, i4, c8⟩ := Z0
        have fz : ∀ a, (14 ≤ a ∧ a ≤ 19) ∨ (27 ≤ a ∧ a ≤ 40) → SE.2.2 a = S0.2.2 a := fun a ha => fE a (by
          simp only [List.mem_cons, List.not_mem_nil, or_false]
          omega)
        exact ⟨⟨c1.ag (fun a h1 h2 => fz a (Or.inl ⟨h1, h2⟩)), hhE, ⟨g28, k28, (fz _ (by decide)).trans c3⟩, ⟨o39, c4.ag (fz _ (by decide)) (fz _ (by decide))⟩, o37, c5.ag (fz _ (by decide)) (fz _ (by decide))⟩, ⟨xs, ys, us, c6.ag (fun a h1 h2 => fz a (by omega))⟩, ⟨dn, (fz _ (by decide)).trans c7⟩, vw, ji, vc, j1, j2, j3, j4, j5, j6, i1, i2, i3, i4, (fz _ (by decide)).trans c8⟩
      obtain ⟨N9, Tg9⟩ := Tg9
      obtain ⟨f50, h50⟩ := h50
      obtain ⟨od9, d9⟩ := d9
      obtain ⟨ow9, w9⟩ := w9
      obtain ⟨g53', k53, g53⟩ := g53
      obtain ⟨g54', k54, g54⟩ := g54
      exact ⟨rfl, by rw [uE.1]; omega, by rw [uE.2.1]; omega, by rw [hSE]; exact ks_set_same _ _ _, KE, t9.up uE (by decide) (by decide), ⟨od9, d9.up uE (by decide) (by decide)⟩, ⟨ow9, w9.up uE (by decide) (by decide)⟩, ZE, tvR_ex R9 uE.ex (by decide) sT9, ⟨N9, Tg9.ag (fun a h1 h2 => uE.2.2 a (by rw [List.mem_singleton]; omega))⟩, ⟨f43, (fE _ (by decide)).trans e43⟩, ⟨f48, (fE _ (by decide)).trans e48⟩, ⟨g49, k49, (fE _ (by decide)).trans e49⟩, ⟨f50, uE.at h50 (by decide)⟩, ⟨f51, (fE _ (by decide)).trans e51⟩, ⟨g53', k53, uE.at g53 (by decide)⟩, ⟨g54', k54, uE.at g54 (by decide)⟩, (fE _ (by decide)).trans e55, D9.up uE (by decide), al, ⟨cc9, X9.up uE (by decide)⟩, F9.ag (uE.2.2 42 (by decide))⟩
    | succ u ih =>
      intro i S1 hi n1 sz1 fr e52a hdx
      have o1 := (fr 0 (by decide)).trans o0
      refine ks_iload_n dX11_init_157 rfl rfl ?_
      refine ks_bipush (x := nI 12) dX11_init_158 (by decide) rfl ?_
      refine ks_icmp_geN (tgt := 182) (by omega) (by decide) dX11_init_160 (by decide) rfl (fun h1 => absurd h1 (by omega)) (fun h1 => ?_)
      refine ks_aload_n dX11_init_163 rfl rfl ?_
      refine ks_getf (T := TX11) (kf := 8) kx_1061 rfl in_X11 cl_X11 (by decide) o1 rfl dX11_init_164 rfl ?_
      refine ks_iload_n dX11_init_167 rfl rfl ?_
      refine ks_newcx (ci := 7) (x := 56 + 19 * i) (ty0 := tyX4) (fs := [.int (nI 0), .int (nI 0), .null, .long (lN 0), .long (lN 0), .null, .null, .null, .null, .null]) n1 kx_777 kx_779 kx_28 in_X4 tyX4_ok cl_X4 (fun j hj => by rcases j with _ | _ | _ | _ | _ | _ | _ | _ | _ | _ | j <;> first | rfl | (exfalso; omega)) rfl (by omega) dX11_init_168 rfl (fun T1 q1 => ?_)
      refine ks_dup dX11_init_171 rfl rfl ?_
      refine ks_callIN (n := 0) (M' := mX4_init) (c_dx_init (d := d + 8) (b := 56 + 19 * i) hGA q1.2.2.1 q1.1 (by omega)) rfl rfl kx_780 kx_781 kx_28 kx_782 (by decide +kernel) rfl (by decide) (Nat.le_of_ble_eq_true rfl) rfl dX11_init_172 rfl (fun z2 U2 y2 => ?_)
      obtain ⟨rfl, m2, s2, f2, X2⟩ := y2
      have e1 : T1.2.1 = S1.2.1 + 10 := q1.2.1
      have g52 : U2.2.2 52 = some (kA 6 12 (fun j => if j < i then some (56 + 19 * j) else none)) := (f2 52 (by omega)).trans ((q1.2.2.2 52 (by omega)).trans e52a)
      obtain ⟨xsz, xid, xix, xsq, xvl, xsc, xU, -, -⟩ := dx_len X2
      have x0 := xU.1
      refine ks_aastN (t := 6) (i := i) rfl (by decide) cl_X4 g52 x0 rfl (by omega) (by decide) dX11_init_175 rfl ?_
      refine ks_incN (c := 1) (e := i + 1) dX11_init_176 rfl (by decide) rfl (by decide) rfl ?_
      refine ks_sub [(1, _), (0, _)] rfl ?_
      refine ks_goto (tgt := 157) dX11_init_179 (by decide) ?_
      obtain ⟨SN, hSN⟩ : ∃ SN : ks_S, SN = ks_set U2 52 (kA 6 12 (va_up (fun j => if j < i then some (56 + 19 * j) else none) i (some (56 + 19 * i)))) := ⟨_, rfl⟩
      refine ks_tS (S' := SN) hSN.symm ?_
      have uN : ks_up U2 SN [52] := by rw [hSN]; exact ks_up_set _ _ (List.mem_singleton.mpr rfl)
      refine ks_sub [(0, _), (1, _)] rfl (ih (i + 1) SN (by omega) (by rw [uN.1]; omega) (by rw [uN.2.1]; omega) (fun a ha => ?_) ?_ (fun j hj => ?_))
      · rw [uN.2.2 a (by rw [List.mem_singleton]; omega), f2 a (by omega), q1.2.2.2 a (by omega)]
        exact fr a ha
      · rw [hSN, ks_set_same]
        congr 4
        funext j
        by_cases e : j = i
        · subst e; rw [va_up_self, if_pos (by omega)]
        · rw [va_up_ne _ _ e]
          by_cases c : j < i
          · rw [if_pos c, if_pos (by omega)]
          · rw [if_neg c, if_neg (by omega)]
      · by_cases e : j = i
        · subst e
          exact X2.up uN (fun x hx => by rw [List.mem_singleton] at hx; omega)
        · refine dx_ag (hdx j (by omega)) (fun a h1 h2 => ?_)
          rw [uN.2.2 a (by rw [List.mem_singleton]; omega), f2 a (by omega), q1.2.2.2 a (by omega)]
  exact ks_sub [(0, _), (1, _)] rfl (loop 12 0 S0 rfl n0 (by omega) (fun a _ => rfl) e52 (fun j hj => absurd hj (Nat.not_lt_zero j)))
