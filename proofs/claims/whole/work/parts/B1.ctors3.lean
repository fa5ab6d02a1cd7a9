/-! CONSTRUCTORS: Chain -/
theorem tg_ok.ag {S S1 : ks_S} {N : Nat} (h : tg_ok S N) (hg : ∀ a, 44 ≤ a → a ≤ 47 → S1.2.2 a = S.2.2 a) : tg_ok S1 N := by
  obtain ⟨h1, ⟨g, a, b, c⟩, ⟨g2, a2, b2⟩, ⟨g3, a3, b3⟩⟩ := h
  exact ⟨(hg _ (by decide) (by decide)).trans h1, ⟨g, a, (hg _ (by decide) (by decide)).trans b, c⟩, ⟨g2, a2, (hg _ (by decide) (by decide)).trans b2⟩, ⟨g3, a3, (hg _ (by decide) (by decide)).trans b3⟩⟩
set_option maxRecDepth 100000 in
set_option maxHeartbeats 800000 in
theorem c_ch_init {l : Launch} {G : ks_G} {d : Nat} {S : ks_S} {B : Nat → Bk} (hb : S.2.2 41 = some (.inr (5, [.null, .null, .null, .int (nI 0), .int (nI 0), .null, .null, .null, .null, .null, .null, .null, .int (nI 0), .long (lN 0)]))) (hS1 : S.1 = 42) : ks_P l G yX2_init mX2_init (d + 2) [.ref 41, .ref 7, .ref 27, .ref 20] S (fun z S' => z = none ∧ S'.1 = 52 ∧ S'.2.1 = S.2.1 + 889 ∧ (∀ a, a < 41 ∨ 51 < a → S'.2.2 a = S.2.2 a) ∧ chX S' 0 0 (nI 0) (lN 0) B ∧ chF S' 0 B none ∧ tg_ok S' 0 ∧ (∃ f, S'.2.2 43 = some (kN 60 f)) ∧ (∃ f, S'.2.2 48 = some (kL 11 f)) ∧ (∃ g, kO g ∧ S'.2.2 49 = some (kB 32 g)) ∧ coS S' [] ∧ ∃ f, S'.2.2 51 = some (kN 40 f)) := by
  refine ks_of (by decide) rfl rfl (Nat.le_of_ble_eq_true rfl) ?_
  show ks_X l G mX2_init (d + 2) 0 [(0, .ref 41), (1, .ref 7), (2, .ref 27), (3, .ref 20)] [] S _
  refine ks_aload_n dX2_init_0 rfl rfl ?_
  refine ks_objInit kx_710 kx_43 kx_44 (by omega) (by decide) dX2_init_1 rfl ?_
  refine ks_aload_n dX2_init_4 rfl rfl ?_
  refine ks_bipush (x := nI 61) dX2_init_5 (by decide) rfl ?_
  refine ks_anewx (t := 5) (N := 61) (x := 42) hS1 rfl kx_711 (fun U h => h.2.2.1) (by decide) (by decide) dX2_init_7 rfl (fun T1 q1 => ?_)
  refine ks_putF (T := TX2) (kf := 0) kx_729 rfl rfl rfl in_X2 tyX2_ok nmX2 cl_X2 (by decide) ((q1.2.2.2 _ (by decide)).trans hb) (Nat.le_of_ble_eq_true rfl) rfl rfl rfl rfl dX2_init_10 rfl ?_
  refine ks_aload_n dX2_init_13 rfl rfl ?_
  refine ks_bipush (x := nI 60) dX2_init_14 (by decide) rfl ?_
  refine ks_newNx (N := 60) (x := 43) q1.1 kx_100 (by decide) (by decide) dX2_init_16 rfl (fun T2 q2 => ?_)
  refine ks_putF (T := TX2) (kf := 1) kx_731 rfl rfl rfl in_X2 tyX2_ok nmX2 cl_X2 (by decide) ((q2.2.2.2 _ (by decide)).trans (ks_set_same _ _ _)) (Nat.le_of_ble_eq_true rfl) rfl rfl rfl rfl dX2_init_18 rfl ?_
  refine ks_aload_n dX2_init_21 rfl rfl ?_
  refine ks_newcx (ci := 12) (x := 44) (ty0 := tyX9) (fs := [.null, .null, .null]) q2.1 kx_713 kx_714 kx_27 in_X9 tyX9_ok cl_X9 (fun j hj => by rcases j with _ | _ | _ | j <;> first | rfl | (exfalso; omega)) rfl (by decide) dX2_init_22 rfl (fun T3 q3 => ?_)
  refine ks_dup dX2_init_25 rfl rfl ?_
  refine ks_callIN (n := 0) (M' := mX9_init) (c_tg_init (d := d) q3.2.2.1 q3.1) rfl rfl kx_715 kx_716 kx_27 kx_717 (by decide +kernel) rfl (by decide) (Nat.le_of_ble_eq_true rfl) rfl dX2_init_26 rfl (fun z9 U9 y9 => ?_)
  obtain ⟨rfl, m9, s9, f9, R9⟩ := y9
  refine ks_putF (T := TX2) (kf := 2) kx_733 rfl rfl rfl in_X2 tyX2_ok nmX2 cl_X2 (by decide) ((f9 _ (by decide)).trans ((q3.2.2.2 _ (by decide)).trans (ks_set_same _ _ _))) (Nat.le_of_ble_eq_true rfl) rfl rfl rfl rfl dX2_init_29 rfl ?_
  refine ks_aload_n dX2_init_32 rfl rfl ?_
  refine ks_bipush (x := nI 11) dX2_init_33 (by decide) rfl ?_
  refine ks_newLx (N := 11) (x := 48) m9 kx_142 (by decide) (by decide) dX2_init_35 rfl (fun T4 q4 => ?_)
  refine ks_putF (T := TX2) (kf := 8) kx_742 rfl rfl rfl in_X2 tyX2_ok nmX2 cl_X2 (by decide) ((q4.2.2.2 _ (by decide)).trans (ks_set_same _ _ _)) (Nat.le_of_ble_eq_true rfl) rfl rfl rfl rfl dX2_init_37 rfl ?_
  refine ks_aload_n dX2_init_40 rfl rfl ?_
  refine ks_bipush (x := nI 32) dX2_init_41 (by decide) rfl ?_
  refine ks_newBx (N := 32) (x := 49) q4.1 kx_74 (by decide) (by decide) dX2_init_43 rfl (fun T5 q5 => ?_)
  refine ks_putF (T := TX2) (kf := 9) kx_743 rfl rfl rfl in_X2 tyX2_ok nmX2 cl_X2 (by decide) ((q5.2.2.2 _ (by decide)).trans (ks_set_same _ _ _)) (Nat.le_of_ble_eq_true rfl) rfl rfl rfl rfl dX2_init_45 rfl ?_
  refine ks_aload_n dX2_init_48 rfl rfl ?_
  refine ks_sipush (x := nI 580) dX2_init_49 (by decide) rfl ?_
  refine ks_newNx (N := 580) (x := 50) q5.1 kx_100 (by decide) (by decide) dX2_init_52 rfl (fun T6 q6 => ?_)
  refine ks_putF (T := TX2) (kf := 10) kx_744 rfl rfl rfl in_X2 tyX2_ok nmX2 cl_X2 (by decide) ((q6.2.2.2 _ (by decide)).trans (ks_set_same _ _ _)) (Nat.le_of_ble_eq_true rfl) rfl rfl rfl rfl dX2_init_54 rfl ?_
  refine ks_aload_n dX2_init_57 rfl rfl ?_
  refine ks_bipush (x := nI 40) dX2_init_58 (by decide) rfl ?_
  refine ks_newNx (N := 40) (x := 51) q6.1 kx_100 (by decide) (by decide) dX2_init_60 rfl (fun T7 q7 => ?_)
  refine ks_putF (T := TX2) (kf := 11) kx_745 rfl rfl rfl in_X2 tyX2_ok nmX2 cl_X2 (by decide) ((q7.2.2.2 _ (by decide)).trans (ks_set_same _ _ _)) (Nat.le_of_ble_eq_true rfl) rfl rfl rfl rfl dX2_init_62 rfl ?_
  refine ks_aload_n dX2_init_65 rfl rfl ?_
  refine ks_aload_n dX2_init_66 rfl rfl ?_
  refine ks_putF (T := TX2) (kf := 5) kx_739 rfl rfl rfl in_X2 tyX2_ok nmX2 cl_X2 (by decide) (ks_set_same _ _ _) (Nat.le_of_ble_eq_true rfl) rfl rfl rfl rfl dX2_init_67 rfl ?_
  refine ks_aload_n dX2_init_70 rfl rfl ?_
  refine ks_aload_n dX2_init_71 rfl rfl ?_
  refine ks_putF (T := TX2) (kf := 6) kx_740 rfl rfl rfl in_X2 tyX2_ok nmX2 cl_X2 (by decide) (ks_set_same _ _ _) (Nat.le_of_ble_eq_true rfl) rfl rfl rfl rfl dX2_init_72 rfl ?_
  refine ks_aload_n dX2_init_75 rfl rfl ?_
  refine ks_aload_n dX2_init_76 rfl rfl ?_
  refine ks_putF (T := TX2) (kf := 7) kx_741 rfl rfl rfl in_X2 tyX2_ok nmX2 cl_X2 (by decide) (ks_set_same _ _ _) (Nat.le_of_ble_eq_true rfl) rfl rfl rfl rfl dX2_init_77 rfl ?_
  refine ks_ret rfl dX2_init_80 ?_
  have e1 : T1.2.1 = S.2.1 + 61 := q1.2.1
  have e2 : T2.2.1 = T1.2.1 + 60 := q2.2.1
  have e3 : T3.2.1 = T2.2.1 + 3 := q3.2.1
  have e4 : T4.2.1 = U9.2.1 + 11 := q4.2.1
  have e5 : T5.2.1 = T4.2.1 + 32 := q5.2.1
  have e6 : T6.2.1 = T5.2.1 + 580 := q6.2.1
  have e7 : T7.2.1 = T6.2.1 + 40 := q7.2.1
  refine ⟨rfl, q7.1, by show T7.2.1 = _; omega, fun a9 ha => ((ks_set_ne _ _ (by omega)).trans ((ks_set_ne _ _ (by omega)).trans ((ks_set_ne _ _ (by omega)).trans ((ks_set_ne _ _ (by omega)).trans ((q7.2.2.2 _ (by omega)).trans ((ks_set_ne _ _ (by omega)).trans ((q6.2.2.2 _ (by omega)).trans ((ks_set_ne _ _ (by omega)).trans ((q5.2.2.2 _ (by omega)).trans ((ks_set_ne _ _ (by omega)).trans ((q4.2.2.2 _ (by omega)).trans ((ks_set_ne _ _ (by omega)).trans ((f9 _ (by omega)).trans ((q3.2.2.2 _ (by omega)).trans ((ks_set_ne _ _ (by omega)).trans ((q2.2.2.2 _ (by omega)).trans ((ks_set_ne _ _ (by omega)).trans ((q1.2.2.2 _ (by omega)).trans rfl)))))))))))))))))), ⟨(ks_set_same _ _ _), ⟨_, ((ks_set_ne _ _ (by decide)).trans ((ks_set_ne _ _ (by decide)).trans ((ks_set_ne _ _ (by decide)).trans ((ks_set_ne _ _ (by decide)).trans ((q7.2.2.2 _ (by decide)).trans ((ks_set_ne _ _ (by decide)).trans ((q6.2.2.2 _ (by decide)).trans ((ks_set_ne _ _ (by decide)).trans ((q5.2.2.2 _ (by decide)).trans ((ks_set_ne _ _ (by decide)).trans ((q4.2.2.2 _ (by decide)).trans ((ks_set_ne _ _ (by decide)).trans ((f9 _ (by decide)).trans ((q3.2.2.2 _ (by decide)).trans ((ks_set_ne _ _ (by decide)).trans ((q2.2.2.2 _ (by decide)).trans ((ks_set_ne _ _ (by decide)).trans q1.2.2.1))))))))))))))))), fun i hi => absurd hi (Nat.not_lt_zero i)⟩, fun i hi => absurd hi (Nat.not_lt_zero i), by decide⟩, ⟨⟨_, ((ks_set_ne _ _ (by decide)).trans ((ks_set_ne _ _ (by decide)).trans ((ks_set_ne _ _ (by decide)).trans ((ks_set_ne _ _ (by decide)).trans ((q7.2.2.2 _ (by decide)).trans ((ks_set_ne _ _ (by decide)).trans ((q6.2.2.2 _ (by decide)).trans ((ks_set_ne _ _ (by decide)).trans ((q5.2.2.2 _ (by decide)).trans ((ks_set_ne _ _ (by decide)).trans ((q4.2.2.2 _ (by decide)).trans ((ks_set_ne _ _ (by decide)).trans ((f9 _ (by decide)).trans ((q3.2.2.2 _ (by decide)).trans ((ks_set_ne _ _ (by decide)).trans ((q2.2.2.2 _ (by decide)).trans ((ks_set_ne _ _ (by decide)).trans q1.2.2.1))))))))))))))))), rfl, fun i hi => rfl⟩, fun b h => by cases h⟩, R9.ag (fun a3 h1 h2 => ((ks_set_ne _ _ (by omega)).trans ((ks_set_ne _ _ (by omega)).trans ((ks_set_ne _ _ (by omega)).trans ((ks_set_ne _ _ (by omega)).trans ((q7.2.2.2 _ (by omega)).trans ((ks_set_ne _ _ (by omega)).trans ((q6.2.2.2 _ (by omega)).trans ((ks_set_ne _ _ (by omega)).trans ((q5.2.2.2 _ (by omega)).trans ((ks_set_ne _ _ (by omega)).trans ((q4.2.2.2 _ (by omega)).trans ((ks_set_ne _ _ (by omega)).trans rfl))))))))))))), ⟨_, ((ks_set_ne _ _ (by decide)).trans ((ks_set_ne _ _ (by decide)).trans ((ks_set_ne _ _ (by decide)).trans ((ks_set_ne _ _ (by decide)).trans ((q7.2.2.2 _ (by decide)).trans ((ks_set_ne _ _ (by decide)).trans ((q6.2.2.2 _ (by decide)).trans ((ks_set_ne _ _ (by decide)).trans ((q5.2.2.2 _ (by decide)).trans ((ks_set_ne _ _ (by decide)).trans ((q4.2.2.2 _ (by decide)).trans ((ks_set_ne _ _ (by decide)).trans ((f9 _ (by decide)).trans ((q3.2.2.2 _ (by decide)).trans ((ks_set_ne _ _ (by decide)).trans q2.2.2.1)))))))))))))))⟩, ⟨_, ((ks_set_ne _ _ (by decide)).trans ((ks_set_ne _ _ (by decide)).trans ((ks_set_ne _ _ (by decide)).trans ((ks_set_ne _ _ (by decide)).trans ((q7.2.2.2 _ (by decide)).trans ((ks_set_ne _ _ (by decide)).trans ((q6.2.2.2 _ (by decide)).trans ((ks_set_ne _ _ (by decide)).trans ((q5.2.2.2 _ (by decide)).trans ((ks_set_ne _ _ (by decide)).trans q4.2.2.1))))))))))⟩, ⟨_, kO_zero, ((ks_set_ne _ _ (by decide)).trans ((ks_set_ne _ _ (by decide)).trans ((ks_set_ne _ _ (by decide)).trans ((ks_set_ne _ _ (by decide)).trans ((q7.2.2.2 _ (by decide)).trans ((ks_set_ne _ _ (by decide)).trans ((q6.2.2.2 _ (by decide)).trans ((ks_set_ne _ _ (by decide)).trans q5.2.2.1))))))))⟩, ⟨_, ((ks_set_ne _ _ (by decide)).trans ((ks_set_ne _ _ (by decide)).trans ((ks_set_ne _ _ (by decide)).trans ((ks_set_ne _ _ (by decide)).trans ((q7.2.2.2 _ (by decide)).trans ((ks_set_ne _ _ (by decide)).trans q6.2.2.1)))))), by decide, fun i hi => absurd hi (Nat.not_lt_zero i)⟩, ⟨_, ((ks_set_ne _ _ (by decide)).trans ((ks_set_ne _ _ (by decide)).trans ((ks_set_ne _ _ (by decide)).trans ((ks_set_ne _ _ (by decide)).trans q7.2.2.1))))⟩⟩
