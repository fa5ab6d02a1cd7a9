/-! THE REFERENCE: a transaction in a wide row -/
set_option maxRecDepth 100000 in
set_option maxHeartbeats 800000 in
theorem c_md_scriptv {l : Launch} {G : ks_G} {d : Nat} {S : ks_S} {V : Nat → Value} {y N i L most v q : Nat} {g : Nat → Nat} (hO : S.2.2 290 = some (rfE V)) (hy : S.2.2 y = some (kB N g)) (kg : kO g) (hL : L ≤ N) (hN : N < 2 ^ 28) (hr : rc g i L most = some (v, q)) : ks_P l G yX16_script mX16_script (d + 1) [.ref 290, .ref y, .int (nI i)] S (fun z S' => z = some (.int (nI (q + v))) ∧ ∃ V', skK S S' V V' ∧ V' 40 = .int (nI q) ∧ V' 41 = .int (nI v)) := by
  have y290 : y ≠ 290 := ks_neO hy hO
  have n2 := num2_lt kg (i + 1)
  have gi := kg i
  rcases rc_cases hr with ⟨r1, rfl, rfl, r2⟩ | ⟨r1, rfl, rfl, r2⟩
  · refine ks_of (by decide) rfl rfl (Nat.le_of_ble_eq_true rfl) ?_
    show ks_X l G mX16_script (d + 1) 0 [(0, .ref 290), (1, .ref y), (2, .int (nI i))] [] S _
    refine ks_aload_n dX16_script_0 rfl rfl ?_
    refine ks_iload_n dX16_script_1 rfl rfl ?_
    refine ks_baldB (i := i) hy rfl (by omega) (by omega) dX16_script_2 rfl ?_
    refine ks_sipush (x := nI 255) dX16_script_3 (by decide) rfl ?_
    refine ks_andB (kg _) dX16_script_6 rfl ?_
    have hy6 : g i < 256 := (kg _)
    refine ks_istore_n dX16_script_7 (by decide) rfl ?_
    refine ks_sub [(3, _), (0, _), (1, _), (2, _)] rfl ?_
    refine ks_iload_n dX16_script_8 rfl rfl ?_
    refine ks_sipush (x := nI 253) dX16_script_9 (by decide) rfl ?_
    refine ks_icmp_geN (tgt := 19) (by omega) (by decide) dX16_script_12 (by decide) rfl (fun h1 => absurd h1 (by omega)) (fun h1 => ?_)
    refine ks_iconst (x := nI 0) dX16_script_15 (by decide) rfl ?_
    refine ks_goto (tgt := 43) dX16_script_16 (by decide) ?_
    refine ks_istore dX16_script_43 (by decide) rfl ?_
    refine ks_sub [(4, _), (0, _), (1, _), (2, _), (3, _)] rfl ?_
    refine ks_aload_n dX16_script_45 rfl rfl ?_
    refine ks_iload dX16_script_46 rfl rfl ?_
    refine ks_if_neN (tgt := 55) (by decide) dX16_script_48 (by decide) rfl (fun h => absurd h (by decide)) (fun _ => ?_)
    refine ks_iload_n dX16_script_51 rfl rfl ?_
    refine ks_goto (tgt := 66) dX16_script_52 (by decide) ?_
    refine ks_putf (T := TX16) (kf := 41) kx_2409 rfl in_X16 tyX16_ok nmX16 cl_X16 (by decide) hO (Nat.le_of_ble_eq_true rfl) rfl rfl rfl rfl dX16_script_66 rfl ?_
    refine md_put mdp_41 ?_
    refine ks_aload_n dX16_script_69 rfl rfl ?_
    refine ks_iload_n dX16_script_70 rfl rfl ?_
    refine ks_iconst (x := nI 1) dX16_script_71 (by decide) rfl ?_
    refine ks_addN dX16_script_72 rfl ?_
    refine ks_iload dX16_script_73 rfl rfl ?_
    refine ks_addN dX16_script_75 rfl ?_
    refine ks_putf (T := TX16) (kf := 40) kx_2408 rfl in_X16 tyX16_ok nmX16 cl_X16 (by decide) (ks_set_same _ _ _) (Nat.le_of_ble_eq_true rfl) rfl rfl rfl rfl dX16_script_76 rfl ?_
    refine md_put mdp_40 ?_
    refine ks_aload_n dX16_script_79 rfl rfl ?_
    refine ks_getf (T := TX16) (kf := 40) kx_2408 rfl in_X16 cl_X16 (by decide) (ks_set_same _ _ _) rfl dX16_script_80 rfl ?_
    refine ks_tv (va_up_self _ _ _) ?_
    refine ks_aload_n dX16_script_83 rfl rfl ?_
    refine ks_getf (T := TX16) (kf := 41) kx_2409 rfl in_X16 cl_X16 (by decide) (ks_set_same _ _ _) rfl dX16_script_84 rfl ?_
    refine ks_tv ((va_up_ne _ _ (by decide)).trans (va_up_self _ _ _)) ?_
    refine ks_addN dX16_script_87 rfl ?_
    refine ks_iret rfl dX16_script_88 ?_
    refine ⟨rfl, _, ⟨(ks_up_set _ _ (List.mem_singleton.mpr rfl)).trans (ks_up_set _ _ (List.mem_singleton.mpr rfl)), ks_set_same _ _ _, fun k h1 h2 => (va_up_ne _ _ h1).trans (va_up_ne _ _ h2)⟩, va_up_self _ _ _, (va_up_ne _ _ (by decide)).trans (va_up_self _ _ _)⟩
  · refine ks_of (by decide) rfl rfl (Nat.le_of_ble_eq_true rfl) ?_
    show ks_X l G mX16_script (d + 1) 0 [(0, .ref 290), (1, .ref y), (2, .int (nI i))] [] S _
    refine ks_aload_n dX16_script_0 rfl rfl ?_
    refine ks_iload_n dX16_script_1 rfl rfl ?_
    refine ks_baldB (i := i) hy rfl (by omega) (by omega) dX16_script_2 rfl ?_
    refine ks_sipush (x := nI 255) dX16_script_3 (by decide) rfl ?_
    refine ks_andB (kg _) dX16_script_6 rfl ?_
    have hy6 : g i < 256 := (kg _)
    refine ks_istore_n dX16_script_7 (by decide) rfl ?_
    refine ks_sub [(3, _), (0, _), (1, _), (2, _)] rfl ?_
    refine ks_iload_n dX16_script_8 rfl rfl ?_
    refine ks_sipush (x := nI 253) dX16_script_9 (by decide) rfl ?_
    refine ks_icmp_geN (tgt := 19) (by omega) (by decide) dX16_script_12 (by decide) rfl (fun h1 => ?_) (fun h1 => absurd h1 (by omega))
    refine ks_iload_n dX16_script_19 rfl rfl ?_
    refine ks_sipush (x := nI 253) dX16_script_20 (by decide) rfl ?_
    refine ks_icmp_neN (tgt := 30) (by omega) (by decide) dX16_script_23 (by decide) rfl (fun h2 => absurd h2 (by omega)) (fun h2 => ?_)
    refine ks_iconst (x := nI 2) dX16_script_26 (by decide) rfl ?_
    refine ks_goto (tgt := 43) dX16_script_27 (by decide) ?_
    refine ks_istore dX16_script_43 (by decide) rfl ?_
    refine ks_sub [(4, _), (0, _), (1, _), (2, _), (3, _)] rfl ?_
    refine ks_aload_n dX16_script_45 rfl rfl ?_
    refine ks_iload dX16_script_46 rfl rfl ?_
    refine ks_if_neN (tgt := 55) (by decide) dX16_script_48 (by decide) rfl (fun _ => ?_) (fun h => absurd h (by decide))
    refine ks_aload_n dX16_script_55 rfl rfl ?_
    refine ks_aload_n dX16_script_56 rfl rfl ?_
    refine ks_iload_n dX16_script_57 rfl rfl ?_
    refine ks_iconst (x := nI 1) dX16_script_58 (by decide) rfl ?_
    refine ks_addN dX16_script_59 rfl ?_
    refine ks_iload dX16_script_60 rfl rfl ?_
    refine ks_callV (n := 3) (M' := mX16_number) (c_md_number (d := d) (n := 2) hy kg (by omega) (by decide) (by omega)) hO cl_X16 rfl kx_2020 kx_2022 kxp_68 kx_30 kx_2023 (by decide +kernel) rfl (by decide) (Nat.le_of_ble_eq_true rfl) rfl dX16_script_62 rfl (fun z1 T1 y1 => ?_)
    obtain ⟨rfl, hT1⟩ := y1
    obtain rfl := hT1.symm
    refine ks_l2iN dX16_script_65 rfl ?_
    refine ks_putf (T := TX16) (kf := 41) kx_2409 rfl in_X16 tyX16_ok nmX16 cl_X16 (by decide) hO (Nat.le_of_ble_eq_true rfl) rfl rfl rfl rfl dX16_script_66 rfl ?_
    refine md_put mdp_41 ?_
    refine ks_aload_n dX16_script_69 rfl rfl ?_
    refine ks_iload_n dX16_script_70 rfl rfl ?_
    refine ks_iconst (x := nI 1) dX16_script_71 (by decide) rfl ?_
    refine ks_addN dX16_script_72 rfl ?_
    refine ks_iload dX16_script_73 rfl rfl ?_
    refine ks_addN dX16_script_75 rfl ?_
    refine ks_putf (T := TX16) (kf := 40) kx_2408 rfl in_X16 tyX16_ok nmX16 cl_X16 (by decide) (ks_set_same _ _ _) (Nat.le_of_ble_eq_true rfl) rfl rfl rfl rfl dX16_script_76 rfl ?_
    refine md_put mdp_40 ?_
    refine ks_aload_n dX16_script_79 rfl rfl ?_
    refine ks_getf (T := TX16) (kf := 40) kx_2408 rfl in_X16 cl_X16 (by decide) (ks_set_same _ _ _) rfl dX16_script_80 rfl ?_
    refine ks_tv (va_up_self _ _ _) ?_
    refine ks_aload_n dX16_script_83 rfl rfl ?_
    refine ks_getf (T := TX16) (kf := 41) kx_2409 rfl in_X16 cl_X16 (by decide) (ks_set_same _ _ _) rfl dX16_script_84 rfl ?_
    refine ks_tv ((va_up_ne _ _ (by decide)).trans (va_up_self _ _ _)) ?_
    refine ks_addN dX16_script_87 rfl ?_
    refine ks_iret rfl dX16_script_88 ?_
    refine ⟨rfl, _, ⟨(ks_up_set _ _ (List.mem_singleton.mpr rfl)).trans (ks_up_set _ _ (List.mem_singleton.mpr rfl)), ks_set_same _ _ _, fun k h1 h2 => (va_up_ne _ _ h1).trans (va_up_ne _ _ h2)⟩, va_up_self _ _ _, (va_up_ne _ _ (by decide)).trans (va_up_self _ _ _)⟩
set_option maxRecDepth 100000 in
set_option maxHeartbeats 800000 in
theorem c_md_inputv {l : Launch} {G : ks_G} {d : Nat} {S : ks_S} {V : Nat → Value} {y N L P t i q0 a : Nat} {g fi : Nat → Nat} {w1 : Value} {r2 r3 r4 r5 r6 r7 r8 : Nat} (hO : S.2.2 290 = some (rfE V)) (hP : S.2.2 P = some (.inr (16, [.ref y, w1, .ref r2, .ref r3, .ref r4, .ref r5, .ref r6, .ref r7, .ref r8]))) (hR : S.2.2 r6 = some (kN 12 fi)) (hrB : r6 < ks_B) (ht : t < 12) (hq : fi t = q0) (hy : S.2.2 y = some (kB N g)) (kg : kO g) (hL : L ≤ N) (hN : N < 2 ^ 28) (hi9 : i < 65536) (hp : ip g L q0 i = some a) : ks_P l G yX16_input mX16_input (d + 2) [.ref 290, .ref P, .int (nI t), .int (nI i)] S (fun z S' => z = some (.int (nI a)) ∧ ∃ V', skK S S' V V') := by
  have y290 : y ≠ 290 := ks_neO hy hO
  have nP : P ≠ 290 := fun e => by subst e; rw [hP] at hO; cases hO
  have loop : ∀ (u j x : Nat) (S1 : ks_S) (V1 : Nat → Value), j + u = i → skK S S1 V V1 → ip g L q0 j = some x → ks_X l G mX16_input (d + 2) 11 [(0, .ref 290), (1, .ref P), (2, .int (nI t)), (3, .int (nI i)), (4, .int (nI x)), (5, .int (nI j))] [] S1 (fun z S' => z = some (.int (nI a)) ∧ ∃ V', skK S S' V V') := by
    intro u
    induction u with
    | zero =>
      intro j x S1 V1 hj K hx
      obtain rfl : j = i := hj
      rw [hp] at hx
      cases hx
      refine ks_iload dX16_input_11 rfl rfl ?_
      refine ks_iload_n dX16_input_13 rfl rfl ?_
      refine ks_icmp_geN (tgt := 40) (by omega) (by omega) dX16_input_14 (by decide) rfl (fun h1 => ?_) (fun h1 => absurd h1 (by omega))
      refine ks_iload dX16_input_40 rfl rfl ?_
      refine ks_iret rfl dX16_input_42 ?_
      exact ⟨rfl, V1, K⟩
    | succ u ih =>
      intro j x S1 V1 hj K hx
      have eP := K.1.at hP (by rw [List.mem_singleton]; exact nP)
      have ey := K.1.at hy (by rw [List.mem_singleton]; exact y290)
      have o1 := K.2.1
      refine ks_iload dX16_input_11 rfl rfl ?_
      refine ks_iload_n dX16_input_13 rfl rfl ?_
      refine ks_icmp_geN (tgt := 40) (by omega) (by omega) dX16_input_14 (by decide) rfl (fun h1 => absurd h1 (by omega)) (fun h1 => ?_)
      refine ks_aload_n dX16_input_17 rfl rfl ?_
      refine ks_aload_n dX16_input_18 rfl rfl ?_
      refine ks_getN (T := TX13) (kf := 0) kx_1813 rfl in_X13 cl_X13 (by decide) eP rfl dX16_input_19 rfl ?_
      refine ks_iload dX16_input_22 rfl rfl ?_
      refine ks_bipush (x := nI 36) dX16_input_24 (by decide) rfl ?_
      refine ks_addN dX16_input_26 rfl ?_
      obtain ⟨v, s, hr⟩ : ∃ v s, rc g (x + 36) L L = some (v, s) := by
        cases e : rc g (x + 36) L L with
        | none => have := ip_n hx e i (by omega); rw [hp] at this; cases this
        | some r => exact ⟨r.1, r.2, rfl⟩
      have rs := rc_some hr
      refine ks_callV (n := 2) (M' := mX16_script) (c_md_scriptv (d := d) o1 ey kg hL hN hr) o1 cl_X16 rfl kx_2126 kx_2128 kxp_79 kx_30 kx_2129 (by decide +kernel) rfl (by decide) (Nat.le_of_ble_eq_true rfl) rfl dX16_input_27 rfl (fun z2 T2 y2 => ?_)
      obtain ⟨rfl, V2, K2, -, -⟩ := y2
      refine ks_iconst (x := nI 4) dX16_input_30 (by decide) rfl ?_
      refine ks_addN dX16_input_31 rfl ?_
      refine ks_istore dX16_input_32 (by decide) rfl ?_
      refine ks_sub [(4, _), (0, _), (1, _), (2, _), (3, _), (5, _)] rfl ?_
      refine ks_incN (c := 1) (e := j + 1) dX16_input_34 rfl (by decide) rfl (by decide) rfl ?_
      refine ks_sub [(5, _), (0, _), (1, _), (2, _), (3, _), (4, _)] rfl ?_
      refine ks_goto (tgt := 11) dX16_input_37 (by decide) ?_
      exact ks_sub [(0, _), (1, _), (2, _), (3, _), (4, _), (5, _)] rfl (ih (j + 1) _ T2 V2 (by omega) (K.trans K2) (ip_s hx hr))
  refine ks_of (by decide) rfl rfl (Nat.le_of_ble_eq_true rfl) ?_
  show ks_X l G mX16_input (d + 2) 0 [(0, .ref 290), (1, .ref P), (2, .int (nI t)), (3, .int (nI i))] [] S _
  refine ks_aload_n dX16_input_0 rfl rfl ?_
  refine ks_getN (T := TX13) (kf := 6) kx_1824 rfl in_X13 cl_X13 (by decide) hP rfl dX16_input_1 rfl ?_
  refine ks_iload_n dX16_input_4 rfl rfl ?_
  refine ks_ialdN (i := t) hR rfl (by omega) (by decide) dX16_input_5 rfl ?_
  refine ks_istore dX16_input_6 (by decide) rfl ?_
  refine ks_sub [(4, _), (0, _), (1, _), (2, _), (3, _)] rfl ?_
  refine ks_iconst (x := nI 0) dX16_input_8 (by decide) rfl ?_
  refine ks_istore dX16_input_9 (by decide) rfl ?_
  refine ks_sub [(5, _), (0, _), (1, _), (2, _), (3, _), (4, _)] rfl ?_
  subst hq
  exact ks_sub [(0, _), (1, _), (2, _), (3, _), (4, _), (5, _)] rfl (loop i 0 (fi t) S V (Nat.zero_add _) ⟨ks_up.rf _ _, hO, fun _ _ _ => rfl⟩ rfl)
set_option maxRecDepth 100000 in
set_option maxHeartbeats 800000 in
theorem c_md_outputv {l : Launch} {G : ks_G} {d : Nat} {S : ks_S} {V : Nat → Value} {y N L P t i q0 a : Nat} {g fi : Nat → Nat} {w1 : Value} {r2 r3 r4 r5 r6 r7 r8 : Nat} (hO : S.2.2 290 = some (rfE V)) (hP : S.2.2 P = some (.inr (16, [.ref y, w1, .ref r2, .ref r3, .ref r4, .ref r5, .ref r6, .ref r7, .ref r8]))) (hR : S.2.2 r7 = some (kN 12 fi)) (hrB : r7 < ks_B) (ht : t < 12) (hq : fi t = q0) (hy : S.2.2 y = some (kB N g)) (kg : kO g) (hL : L ≤ N) (hN : N < 2 ^ 28) (hi9 : i < 65536) (hp : ot g L q0 i = some a) : ks_P l G yX16_output mX16_output (d + 2) [.ref 290, .ref P, .int (nI t), .int (nI i)] S (fun z S' => z = some (.int (nI a)) ∧ ∃ V', skK S S' V V') := by
  have y290 : y ≠ 290 := ks_neO hy hO
  have nP : P ≠ 290 := fun e => by subst e; rw [hP] at hO; cases hO
  have loop : ∀ (u j x : Nat) (S1 : ks_S) (V1 : Nat → Value), j + u = i → skK S S1 V V1 → ot g L q0 j = some x → ks_X l G mX16_output (d + 2) 11 [(0, .ref 290), (1, .ref P), (2, .int (nI t)), (3, .int (nI i)), (4, .int (nI x)), (5, .int (nI j))] [] S1 (fun z S' => z = some (.int (nI a)) ∧ ∃ V', skK S S' V V') := by
    intro u
    induction u with
    | zero =>
      intro j x S1 V1 hj K hx
      obtain rfl : j = i := hj
      rw [hp] at hx
      cases hx
      refine ks_iload dX16_output_11 rfl rfl ?_
      refine ks_iload_n dX16_output_13 rfl rfl ?_
      refine ks_icmp_geN (tgt := 38) (by omega) (by omega) dX16_output_14 (by decide) rfl (fun h1 => ?_) (fun h1 => absurd h1 (by omega))
      refine ks_iload dX16_output_38 rfl rfl ?_
      refine ks_iret rfl dX16_output_40 ?_
      exact ⟨rfl, V1, K⟩
    | succ u ih =>
      intro j x S1 V1 hj K hx
      have eP := K.1.at hP (by rw [List.mem_singleton]; exact nP)
      have ey := K.1.at hy (by rw [List.mem_singleton]; exact y290)
      have o1 := K.2.1
      refine ks_iload dX16_output_11 rfl rfl ?_
      refine ks_iload_n dX16_output_13 rfl rfl ?_
      refine ks_icmp_geN (tgt := 38) (by omega) (by omega) dX16_output_14 (by decide) rfl (fun h1 => absurd h1 (by omega)) (fun h1 => ?_)
      refine ks_aload_n dX16_output_17 rfl rfl ?_
      refine ks_aload_n dX16_output_18 rfl rfl ?_
      refine ks_getN (T := TX13) (kf := 0) kx_1813 rfl in_X13 cl_X13 (by decide) eP rfl dX16_output_19 rfl ?_
      refine ks_iload dX16_output_22 rfl rfl ?_
      refine ks_bipush (x := nI 8) dX16_output_24 (by decide) rfl ?_
      refine ks_addN dX16_output_26 rfl ?_
      obtain ⟨v, s, hr⟩ : ∃ v s, rc g (x + 8) L L = some (v, s) := by
        cases e : rc g (x + 8) L L with
        | none => have := ot_n hx e i (by omega); rw [hp] at this; cases this
        | some r => exact ⟨r.1, r.2, rfl⟩
      have rs := rc_some hr
      refine ks_callV (n := 2) (M' := mX16_script) (c_md_scriptv (d := d) o1 ey kg hL hN hr) o1 cl_X16 rfl kx_2126 kx_2128 kxp_79 kx_30 kx_2129 (by decide +kernel) rfl (by decide) (Nat.le_of_ble_eq_true rfl) rfl dX16_output_27 rfl (fun z2 T2 y2 => ?_)
      obtain ⟨rfl, V2, K2, -, -⟩ := y2
      refine ks_istore dX16_output_30 (by decide) rfl ?_
      refine ks_sub [(4, _), (0, _), (1, _), (2, _), (3, _), (5, _)] rfl ?_
      refine ks_incN (c := 1) (e := j + 1) dX16_output_32 rfl (by decide) rfl (by decide) rfl ?_
      refine ks_sub [(5, _), (0, _), (1, _), (2, _), (3, _), (4, _)] rfl ?_
      refine ks_goto (tgt := 11) dX16_output_35 (by decide) ?_
      exact ks_sub [(0, _), (1, _), (2, _), (3, _), (4, _), (5, _)] rfl (ih (j + 1) _ T2 V2 (by omega) (K.trans K2) (ot_s hx hr))
  refine ks_of (by decide) rfl rfl (Nat.le_of_ble_eq_true rfl) ?_
  show ks_X l G mX16_output (d + 2) 0 [(0, .ref 290), (1, .ref P), (2, .int (nI t)), (3, .int (nI i))] [] S _
  refine ks_aload_n dX16_output_0 rfl rfl ?_
  refine ks_getN (T := TX13) (kf := 7) kx_1826 rfl in_X13 cl_X13 (by decide) hP rfl dX16_output_1 rfl ?_
  refine ks_iload_n dX16_output_4 rfl rfl ?_
  refine ks_ialdN (i := t) hR rfl (by omega) (by decide) dX16_output_5 rfl ?_
  refine ks_istore dX16_output_6 (by decide) rfl ?_
  refine ks_sub [(4, _), (0, _), (1, _), (2, _), (3, _)] rfl ?_
  refine ks_iconst (x := nI 0) dX16_output_8 (by decide) rfl ?_
  refine ks_istore dX16_output_9 (by decide) rfl ?_
  refine ks_sub [(5, _), (0, _), (1, _), (2, _), (3, _), (4, _)] rfl ?_
  subst hq
  exact ks_sub [(0, _), (1, _), (2, _), (3, _), (4, _), (5, _)] rfl (loop i 0 (fi t) S V (Nat.zero_add _) ⟨ks_up.rf _ _, hO, fun _ _ _ => rfl⟩ rfl)
/-- P holds the places of transaction t of the bytes G in the row y -/
def ptQv (S : ks_S) (P y N : Nat) (G : Nat → Nat) (L t b k p m u e : Nat) : Prop := ∃ (g : Nat → Nat) (A : Nat → Nat → Nat) (c : Nat), (S.2.2 y = some (kB N g) ∧ kO g) ∧ (L ≤ N ∧ N < 2 ^ 28 ∧ P + 9 < ks_B ∧ t < 12) ∧ (∀ j, j < L → g j = G j) ∧ tx_ G b L = some (k, p, m, u, e) ∧ S.2.2 P = some (prO P y c) ∧ (∀ r, r < 6 → S.2.2 (P + 1 + r) = some (kN 12 (A r))) ∧ (A 0 t = b ∧ A 1 t = e) ∧ (A 2 t = k ∧ A 3 t = m) ∧ A 4 t = p ∧ A 5 t = u
theorem ptQv.up {S S1 : ks_S} {P y N L t b k p m u e : Nat} {G : Nat → Nat} {X : List Nat} (h : ptQv S P y N G L t b k p m u e) (hu : ks_up S S1 X) (hX : ∀ x ∈ X, x ≠ y ∧ (x < P ∨ P + 6 < x)) : ptQv S1 P y N G L t b k p m u e := by
  obtain ⟨g, A, c, ⟨h1, h2⟩, h3, h4, h5, h6, h7, h8⟩ := h
  exact ⟨g, A, c, ⟨hu.at h1 (fun hm => (hX _ hm).1 rfl), h2⟩, h3, h4, h5, hu.at h6 (fun hm => by have := hX _ hm; omega), fun r hr => hu.at (h7 r hr) (fun hm => by have := hX _ hm; omega), h8⟩
set_option maxRecDepth 100000 in
set_option maxHeartbeats 800000 in
theorem c_pt_numv {l : Launch} {G : ks_G} {d : Nat} {S : ks_S} {P y N L t b k p m u e i n : Nat} {G9 : Nat → Nat} (hK : ptQv S P y N G9 L t b k p m u e) (hi : i + n ≤ L) (hn : n ≤ 8) : ks_P l G yX16_number mX16_number d [.ref 290, .ref y, .int (nI i), .int (nI n)] S (fun z S' => z = some (.long (lN (ks_num G9 i n))) ∧ S' = S) := by
  obtain ⟨g, A, c9, ⟨ey, kg⟩, ⟨hLN, hN16, hPB, ht12⟩, hg, htx, hP, hA, ⟨a0, a1⟩, ⟨a2, a3⟩, a4, a5⟩ := id hK
  rw [← ks_num_congr (g := g) n i i (fun j hj => hg _ (by omega))]
  exact c_md_number ey kg (by omega) hn (by omega)
set_option maxRecDepth 100000 in
set_option maxHeartbeats 800000 in
theorem c_pt_inputv {l : Launch} {G : ks_G} {d : Nat} {S : ks_S} {V : Nat → Value} {P y N L t b k p m u e : Nat} {G9 : Nat → Nat} (hO : S.2.2 290 = some (rfE V)) (hK : ptQv S P y N G9 L t b k p m u e) {i : Nat} (hi : i < k) : ks_P l G yX16_input mX16_input (d + 2) [.ref 290, .ref P, .int (nI t), .int (nI i)] S (fun z S' => z = some (.int (nI (iA G9 L p i))) ∧ ∃ V', skK S S' V V') := by
  obtain ⟨g, A, c9, ⟨ey, kg⟩, ⟨hLN, hN16, hPB, ht12⟩, hg, htx, hP, hA, ⟨a0, a1⟩, ⟨a2, a3⟩, a4, a5⟩ := id hK
  obtain ⟨i1, i2, i3, i4, i5, i6⟩ := tx_in htx i hi
  have bd := tx_bd htx
  have P5 : S.2.2 (P + 5) = some (kN 12 (A 4)) := hA 4 (by decide)
  exact c_md_inputv hO hP P5 (by omega) ht12 a4 ey kg hLN hN16 (by omega) ((ip_congr hg i).trans i1)
set_option maxRecDepth 100000 in
set_option maxHeartbeats 800000 in
theorem c_pt_outputv {l : Launch} {G : ks_G} {d : Nat} {S : ks_S} {V : Nat → Value} {P y N L t b k p m u e : Nat} {G9 : Nat → Nat} (hO : S.2.2 290 = some (rfE V)) (hK : ptQv S P y N G9 L t b k p m u e) {i : Nat} (hi : i < m) : ks_P l G yX16_output mX16_output (d + 2) [.ref 290, .ref P, .int (nI t), .int (nI i)] S (fun z S' => z = some (.int (nI (oA G9 L u i))) ∧ ∃ V', skK S S' V V') := by
  obtain ⟨g, A, c9, ⟨ey, kg⟩, ⟨hLN, hN16, hPB, ht12⟩, hg, htx, hP, hA, ⟨a0, a1⟩, ⟨a2, a3⟩, a4, a5⟩ := id hK
  obtain ⟨i1, i2, i3, i4, i5⟩ := tx_out htx i hi
  have bd := tx_bd htx
  have P5 : S.2.2 (P + 6) = some (kN 12 (A 5)) := hA 5 (by decide)
  exact c_md_outputv hO hP P5 (by omega) ht12 a5 ey kg hLN hN16 (by omega) ((ot_congr hg i).trans i1)
set_option maxRecDepth 100000 in
set_option maxHeartbeats 800000 in
theorem c_pt_scrIv {l : Launch} {G : ks_G} {d : Nat} {S : ks_S} {V : Nat → Value} {P y N L t b k p m u e : Nat} {G9 : Nat → Nat} (hO : S.2.2 290 = some (rfE V)) (hK : ptQv S P y N G9 L t b k p m u e) {i : Nat} (hi : i < k) : ks_P l G yX16_script mX16_script (d + 1) [.ref 290, .ref y, .int (nI (iA G9 L p i + 36))] S (fun z S' => z = some (.int (nI (iS G9 L p i + iZ G9 L p i))) ∧ ∃ V', skK S S' V V' ∧ V' 40 = .int (nI (iS G9 L p i)) ∧ V' 41 = .int (nI (iZ G9 L p i))) := by
  obtain ⟨g, A, c9, ⟨ey, kg⟩, ⟨hLN, hN16, hPB, ht12⟩, hg, htx, hP, hA, ⟨a0, a1⟩, ⟨a2, a3⟩, a4, a5⟩ := id hK
  obtain ⟨i1, i2, i3, i4, i5, i6⟩ := tx_in htx i hi
  exact c_md_scriptv hO ey kg hLN hN16 ((rc_congr hg).trans i2)
set_option maxRecDepth 100000 in
set_option maxHeartbeats 800000 in
theorem c_pt_scrOv {l : Launch} {G : ks_G} {d : Nat} {S : ks_S} {V : Nat → Value} {P y N L t b k p m u e : Nat} {G9 : Nat → Nat} (hO : S.2.2 290 = some (rfE V)) (hK : ptQv S P y N G9 L t b k p m u e) {i : Nat} (hi : i < m) : ks_P l G yX16_script mX16_script (d + 1) [.ref 290, .ref y, .int (nI (oA G9 L u i + 8))] S (fun z S' => z = some (.int (nI (oS G9 L u i + oZ G9 L u i))) ∧ ∃ V', skK S S' V V' ∧ V' 40 = .int (nI (oS G9 L u i)) ∧ V' 41 = .int (nI (oZ G9 L u i))) := by
  obtain ⟨g, A, c9, ⟨ey, kg⟩, ⟨hLN, hN16, hPB, ht12⟩, hg, htx, hP, hA, ⟨a0, a1⟩, ⟨a2, a3⟩, a4, a5⟩ := id hK
  obtain ⟨i1, i2, i3, i4, i5⟩ := tx_out htx i hi
  exact c_md_scriptv hO ey kg hLN hN16 ((rc_congr hg).trans i2)
/-- what holds while the signed bytes are laid -/
def hsIv (S S1 : ks_S) (V V1 : Nat → Value) (P y N : Nat) (G9 : Nat → Nat) (L t b k p m u e : Nat) (c X : List Nat) : Prop := hsK S S1 V V1 ∧ ptQv S1 P y N G9 L t b k p m u e ∧ ctX S1 V1 c ∧ (mhR S1 ∧ ∃ g, kO g ∧ S1.2.2 305 = some (kB 32 g)) ∧ (∃ g, kO g ∧ S1.2.2 336 = some (kB 32 g)) ∧ buX S1 V1 373 16384 91 X
theorem hsIv.sk {S S1 S2 : ks_S} {V V1 V2 : Nat → Value} {P y N : Nat} {G9 : Nat → Nat} {L t b k p m u e : Nat} {c X : List Nat} (hD : hsD P y) (h : hsIv S S1 V V1 P y N G9 L t b k p m u e c X) (q : skK S1 S2 V1 V2) : hsIv S S2 V V2 P y N G9 L t b k p m u e c X := by
  obtain ⟨⟨h1, h2, h3⟩, h4, h5, ⟨h6, g5, k5, h7⟩, ⟨g6, k6, h8⟩, h9⟩ := h
  exact ⟨⟨h1.trans (q.1.mono (by decide)), q.2.1, fun j a1 a2 a3 a4 a5 a6 a7 => (q.2.2 j a1 a2).trans (h3 j a1 a2 a3 a4 a5 a6 a7)⟩, h4.up q.1 (fun x hx => hD x (by rw [List.mem_singleton] at hx; rw [hx]; decide)), h5.up q.1 (by decide) ⟨q.2.2 _ (by decide) (by decide), q.2.2 _ (by decide) (by decide), q.2.2 _ (by decide) (by decide)⟩, ⟨h6.up q.1 (by decide), g5, k5, q.1.at h7 (by decide)⟩, ⟨g6, k6, q.1.at h8 (by decide)⟩, h9.up q.1 (by decide) (q.2.2 _ (by decide) (by decide))⟩
theorem hsIv.bu {S S1 S2 : ks_S} {V V1 V2 : Nat → Value} {P y N : Nat} {G9 : Nat → Nat} {L t b k p m u e : Nat} {c X X' : List Nat} (hD : hsD P y) (h : hsIv S S1 V V1 P y N G9 L t b k p m u e c X) (q : buK S1 S2 V1 V2 373 91) (hX : buX S2 V2 373 16384 91 X') : hsIv S S2 V V2 P y N G9 L t b k p m u e c X' := by
  obtain ⟨⟨h1, h2, h3⟩, h4, h5, ⟨h6, g5, k5, h7⟩, ⟨g6, k6, h8⟩, h9⟩ := h
  exact ⟨⟨h1.trans (q.1.mono (by decide)), q.2.1, fun j a1 a2 a3 a4 a5 a6 a7 => (q.2.2 j a7).trans (h3 j a1 a2 a3 a4 a5 a6 a7)⟩, h4.up q.1 (fun x hx => hD x (by simp only [List.mem_cons, List.not_mem_nil, or_false] at hx; rcases hx with rfl | rfl <;> decide)), h5.up q.1 (by decide) ⟨q.2.2 _ (by decide), q.2.2 _ (by decide), q.2.2 _ (by decide)⟩, ⟨h6.up q.1 (by decide), g5, k5, q.1.at h7 (by decide)⟩, ⟨g6, k6, q.1.at h8 (by decide)⟩, hX⟩
set_option maxRecDepth 100000 in
set_option maxHeartbeats 800000 in
theorem l_hsEndv {l : Launch} {G : ks_G} {d : Nat} {S : ks_S} {V V0 : Nat → Value} {S0 : ks_S} {P y N L t b k p m u e inp ty kd : Nat} {G9 : Nat → Nat} {c1 : List Nat} (hD : hsD P y) (hg9 : kO G9) (hi : inp < k) (hty : ty < 256) (hkd : kd = ty % 32) (htx : tx_ G9 b L = some (k, p, m, u, e)) {T : List Nat} (hT : T.length ≤ 16000) {X : List Nat} (I : hsIv S0 S V0 V P y N G9 L t b k p m u e c1 X) (hX : X ++ bytL G9 (e - 4) 4 ++ numL (lN ty) 4 = T) : ks_X l G mX16_hashed (d + 4) 387 [(0, .ref 290), (1, .ref P), (2, .int (nI t)), (4, .int (nI ty))] [] S (fun z S' => z = none ∧ ∃ V' X', hsIv S0 S' V0 V' P y N G9 L t b k p m u e c1 X' ∧ ∃ g, kO g ∧ S'.2.2 336 = some (kB 32 g) ∧ bytL g 0 32 = shaL (shaL T)) := by
  have bd := tx_bd htx
  have lT := congrArg List.length hX
  rw [List.length_append, List.length_append, bytL_len, numL_len] at lT
  obtain ⟨hk1, pt1, ct1, ⟨mh1, gi1, ki1, i51⟩, ⟨gm1, km1, m61⟩, bu1⟩ := id I
  obtain ⟨g1, A1, cc1, ⟨ey1, kg1⟩, ⟨hLN1, hN161, hPB1, ht121⟩, hg1, -, hP1, hA1, ⟨a01, a11⟩, ⟨a21, a31⟩, a41, a51⟩ := id pt1
  have o1 := hk1.2.1
  refine ks_aload_n dX16_hashed_387 rfl rfl ?_
  refine ks_aload_n dX16_hashed_388 rfl rfl ?_
  refine ks_getN (T := TX13) (kf := 0) kx_1813 rfl in_X13 cl_X13 (by decide) hP1 rfl dX16_hashed_389 rfl ?_
  refine ks_aload_n dX16_hashed_392 rfl rfl ?_
  refine ks_getN (T := TX13) (kf := 3) kx_1818 rfl in_X13 cl_X13 (by decide) hP1 rfl dX16_hashed_393 rfl ?_
  refine ks_iload_n dX16_hashed_396 rfl rfl ?_
  refine ks_ialdN (i := t) (show S.2.2 (P + 2) = some (kN 12 (A1 1)) from hA1 1 (by decide)) rfl (by omega) (by decide) dX16_hashed_397 rfl ?_
  rw [a11]
  refine ks_iconst (x := nI 4) dX16_hashed_398 (by decide) rfl ?_
  refine ks_subN (by omega) dX16_hashed_399 rfl ?_
  refine ks_iconst (x := nI 4) dX16_hashed_400 (by decide) rfl ?_
  have y3 : y ≠ 373 := fun h => (hD 373 (by decide)).1 h.symm
  refine ks_callV (n := 3) (M' := mX16_lay_) (c_md_layB (d := d + 3) o1 bu1 (y := y) (s := e - 4) (n := 4) ey1 kg1 (by omega) (by omega) y3 (by omega)) o1 cl_X16 rfl kx_2264 kx_2266 kxp_109 kx_30 kx_2267 (by decide +kernel) rfl (by decide) (Nat.le_of_ble_eq_true rfl) rfl dX16_hashed_401 rfl (fun z2 S2 y2 => ?_)
  obtain ⟨rfl, V2, K2, B2⟩ := y2
  rw [bytL_congr (g := G9) (i2 := e - 4) (fun j hj => hg1 _ (by omega))] at B2
  have I2 := I.bu hD K2 B2
  obtain ⟨hk2, pt2, ct2, ⟨mh2, gi2, ki2, i52⟩, ⟨gm2, km2, m62⟩, bu2⟩ := id I2
  obtain ⟨g2, A2, cc2, ⟨ey2, kg2⟩, ⟨hLN2, hN162, hPB2, ht122⟩, hg2, -, hP2, hA2, ⟨a02, a12⟩, ⟨a22, a32⟩, a42, a52⟩ := id pt2
  have o2 := hk2.2.1
  refine ks_aload_n dX16_hashed_404 rfl rfl ?_
  refine ks_iload dX16_hashed_405 rfl rfl ?_
  refine ks_i2lN (by omega) dX16_hashed_407 rfl ?_
  refine ks_iconst (x := nI 4) dX16_hashed_408 (by decide) rfl ?_
  refine ks_callV (n := 2) (M' := mX16_lay) (c_md_layN (d := d + 3) o2 bu2 (v := lN ty) (n := 4) (by decide) (by rw [List.length_append, bytL_len]; omega)) o2 cl_X16 rfl kx_2272 kx_2274 kxp_111 kx_30 kx_2275 (by decide +kernel) rfl (by decide) (Nat.le_of_ble_eq_true rfl) rfl dX16_hashed_409 rfl (fun z3 S3 y3 => ?_)
  obtain ⟨rfl, V3, K3, B3⟩ := y3
  rw [hX] at B3
  have I3 := I2.bu hD K3 B3
  obtain ⟨v91, gs, es, ks, hls, ems⟩ := id B3
  obtain ⟨hk3, pt3, ct3, ⟨mh3, gi3, ki3, i53⟩, ⟨gm3, km3, m63⟩, bu3⟩ := id I3
  obtain ⟨g3, A3, cc3, ⟨ey3, kg3⟩, ⟨hLN3, hN163, hPB3, ht123⟩, hg3, -, hP3, hA3, ⟨a03, a13⟩, ⟨a23, a33⟩, a43, a53⟩ := id pt3
  have o3 := hk3.2.1
  refine ks_aload_n dX16_hashed_412 rfl rfl ?_
  refine ks_aload_n dX16_hashed_413 rfl rfl ?_
  refine ks_getf (T := TX16) (kf := 90) kx_2458 rfl in_X16 cl_X16 (by decide) o3 rfl dX16_hashed_414 rfl ?_
  refine ks_iconst (x := nI 0) dX16_hashed_417 (by decide) rfl ?_
  refine ks_aload_n dX16_hashed_418 rfl rfl ?_
  refine ks_getf (T := TX16) (kf := 91) kx_2459 rfl in_X16 cl_X16 (by decide) o3 rfl dX16_hashed_419 rfl ?_
  refine ks_tv v91 ?_
  refine ks_aload_n dX16_hashed_422 rfl rfl ?_
  refine ks_getf (T := TX16) (kf := 35) kx_2403 rfl in_X16 cl_X16 (by decide) o3 rfl dX16_hashed_423 rfl ?_
  refine ks_iconst (x := nI 0) dX16_hashed_426 (by decide) rfl ?_
  refine ks_callV (n := 5) (M' := mX16_again) (c_md_again (d := d) o3 mh3 i53 ki3 es ks (i := 0) (n := T.length) (by omega) (by decide) m63 km3 (oa := 0) (by decide) (by decide) (by decide) (by decide)) o3 cl_X16 rfl kx_1988 kx_1990 kxp_61 kx_30 kx_1991 (by decide +kernel) rfl (by decide) (Nat.le_of_ble_eq_true rfl) rfl dX16_hashed_427 rfl (fun z4 S4 y4 => ?_)
  obtain ⟨rfl, u4, M4, i4, e4⟩ := y4
  refine ks_ret rfl dX16_hashed_430 ?_
  have e9 : bytL (ks_pt (twice_ (fun k => gs (0 + k)) T.length) gm3 0 32) 0 32 = shaL (shaL T) := by
    rw [bytL_pt, ems, shaL_of, shaL_of, bytL_len]
    refine bytL_congr (fun j hj => ?_)
    rw [show (fun k => sha_ (fun k => gs (0 + k)) T.length (0 + k)) = sha_ (fun k => gs (0 + k)) T.length from funext fun k => by rw [Nat.zero_add]]
    rfl
  refine ⟨rfl, V3, T, ⟨⟨hk3.1.trans (u4.mono (by decide)), u4.at o3 (by decide), hk3.2.2⟩, pt3.up u4 (fun x hx => hD x (by simp only [List.mem_cons, List.not_mem_nil, or_false] at hx; rcases hx with rfl | rfl | rfl | rfl | rfl | rfl <;> decide)), ct3.up u4 (by decide) ⟨rfl, rfl, rfl⟩, ⟨M4, i4⟩, ⟨_, kO_pt (kO_twice _ _) km3 _ _, e4⟩, bu3.up u4 (by decide) rfl⟩, _, kO_pt (kO_twice _ _) km3 _ _, e4, e9⟩
set_option maxRecDepth 100000 in
set_option maxHeartbeats 800000 in
theorem l_hsOutv {l : Launch} {G : ks_G} {d : Nat} {V0 : Nat → Value} {S0 : ks_S} {P y N L t b k p m u e inp ty kd : Nat} {G9 : Nat → Nat} {c1 : List Nat} (hD : hsD P y) (hg9 : kO G9) (hi : inp < k) (hty : ty < 256) (hkd : kd = ty % 32) (htx : tx_ G9 b L = some (k, p, m, u, e)) {T : List Nat} (hT : T.length ≤ 16000) {sh : Nat} (hsh : sh ≤ m) (hsI9 : kd = 3 → inp < m) : ∀ (w o : Nat) (S : ks_S) (V : Nat → Value) (X : List Nat), o + w = sh → hsIv S0 S V0 V P y N G9 L t b k p m u e c1 X → X ++ catF (sgOut G9 L u inp kd) o w ++ bytL G9 (e - 4) 4 ++ numL (lN ty) 4 = T → ks_X l G mX16_hashed (d + 4) 305 [(0, .ref 290), (1, .ref P), (2, .int (nI t)), (3, .int (nI inp)), (4, .int (nI ty)), (5, .int (nI kd)), (7, .int (nI sh)), (8, .int (nI o))] [] S (fun z S' => z = none ∧ ∃ V' X', hsIv S0 S' V0 V' P y N G9 L t b k p m u e c1 X' ∧ ∃ g, kO g ∧ S'.2.2 336 = some (kB 32 g) ∧ bytL g 0 32 = shaL (shaL T)) := by
  have bd := tx_bd htx
  have hTo := tx_out htx
  intro w
  induction w with
  | zero =>
    intro o S V X ho I hX
    obtain ⟨hk1, pt1, ct1, ⟨mh1, gi1, ki1, i51⟩, ⟨gm1, km1, m61⟩, bu1⟩ := id I
    obtain ⟨g1, A1, cc1, ⟨ey1, kg1⟩, ⟨hLN1, hN161, hPB1, ht121⟩, hg1, -, hP1, hA1, ⟨a01, a11⟩, ⟨a21, a31⟩, a41, a51⟩ := id pt1
    have o1 := hk1.2.1
    refine ks_iload dX16_hashed_305 rfl rfl ?_
    refine ks_iload dX16_hashed_307 rfl rfl ?_
    refine ks_icmp_geN (tgt := 387) (by omega) (by omega) dX16_hashed_309 (by decide) rfl (fun h1 => ?_) (fun h1 => absurd h1 (by omega))
    have e0 : X ++ catF (sgOut G9 L u inp kd) o 0 = X := List.append_nil _
    rw [e0] at hX
    exact ks_sub [(0, _), (1, _), (2, _), (4, _)] rfl (l_hsEndv (d := d) hD hg9 hi hty hkd htx hT I hX)
  | succ w ih =>
    intro o S V X ho I hX
    obtain ⟨hk1, pt1, ct1, ⟨mh1, gi1, ki1, i51⟩, ⟨gm1, km1, m61⟩, bu1⟩ := id I
    obtain ⟨g1, A1, cc1, ⟨ey1, kg1⟩, ⟨hLN1, hN161, hPB1, ht121⟩, hg1, -, hP1, hA1, ⟨a01, a11⟩, ⟨a21, a31⟩, a41, a51⟩ := id pt1
    have o1 := hk1.2.1
    refine ks_iload dX16_hashed_305 rfl rfl ?_
    refine ks_iload dX16_hashed_307 rfl rfl ?_
    refine ks_icmp_geN (tgt := 387) (by omega) (by omega) dX16_hashed_309 (by decide) rfl (fun h1 => absurd h1 (by omega)) (fun h1 => ?_)
    have zb := hTo o (by omega)
    have lT := congrArg List.length hX
    have ef : catF (sgOut G9 L u inp kd) o (w + 1) = (sgOut G9 L u inp kd) o ++ catF (sgOut G9 L u inp kd) (o + 1) w := rfl
    rw [ef] at hX lT
    simp only [List.length_append] at lT
    refine ks_aload_n dX16_hashed_312 rfl rfl ?_
    refine ks_aload_n dX16_hashed_313 rfl rfl ?_
    refine ks_iload_n dX16_hashed_314 rfl rfl ?_
    refine ks_iload dX16_hashed_315 rfl rfl ?_
    refine ks_callV (n := 3) (M' := mX16_output) (c_pt_outputv (d := d + 1) o1 pt1 (i := o) (by omega)) o1 cl_X16 rfl kx_2141 kx_2143 kxp_82 kx_30 kx_2144 (by decide +kernel) rfl (by decide) (Nat.le_of_ble_eq_true rfl) rfl dX16_hashed_317 rfl (fun z2 S2 y2 => ?_)
    obtain ⟨rfl, V2, K2⟩ := y2
    have I2 := I.sk hD K2
    obtain ⟨hk2, pt2, ct2, ⟨mh2, gi2, ki2, i52⟩, ⟨gm2, km2, m62⟩, bu2⟩ := id I2
    obtain ⟨g2, A2, cc2, ⟨ey2, kg2⟩, ⟨hLN2, hN162, hPB2, ht122⟩, hg2, -, hP2, hA2, ⟨a02, a12⟩, ⟨a22, a32⟩, a42, a52⟩ := id pt2
    have o2 := hk2.2.1
    refine ks_istore dX16_hashed_320 (by decide) rfl ?_
    refine ks_sub [(9, _), (0, _), (1, _), (2, _), (3, _), (4, _), (5, _), (7, _), (8, _)] rfl ?_
    refine ks_aload_n dX16_hashed_322 rfl rfl ?_
    refine ks_aload_n dX16_hashed_323 rfl rfl ?_
    refine ks_getN (T := TX13) (kf := 0) kx_1813 rfl in_X13 cl_X13 (by decide) hP2 rfl dX16_hashed_324 rfl ?_
    refine ks_iload dX16_hashed_327 rfl rfl ?_
    refine ks_bipush (x := nI 8) dX16_hashed_329 (by decide) rfl ?_
    refine ks_addN dX16_hashed_331 rfl ?_
    refine ks_callV (n := 2) (M' := mX16_script) (c_pt_scrOv (d := d + 2) o2 pt2 (i := o) (by omega)) o2 cl_X16 rfl kx_2126 kx_2128 kxp_79 kx_30 kx_2129 (by decide +kernel) rfl (by decide) (Nat.le_of_ble_eq_true rfl) rfl dX16_hashed_332 rfl (fun z3 S3 y3 => ?_)
    obtain ⟨rfl, V3, K3, -, -⟩ := y3
    have I3 := I2.sk hD K3
    obtain ⟨hk3, pt3, ct3, ⟨mh3, gi3, ki3, i53⟩, ⟨gm3, km3, m63⟩, bu3⟩ := id I3
    obtain ⟨g3, A3, cc3, ⟨ey3, kg3⟩, ⟨hLN3, hN163, hPB3, ht123⟩, hg3, -, hP3, hA3, ⟨a03, a13⟩, ⟨a23, a33⟩, a43, a53⟩ := id pt3
    have o3 := hk3.2.1
    refine ks_istore dX16_hashed_335 (by decide) rfl ?_
    refine ks_sub [(10, _), (0, _), (1, _), (2, _), (3, _), (4, _), (5, _), (7, _), (8, _), (9, _)] rfl ?_
    refine ks_iload dX16_hashed_337 rfl rfl ?_
    refine ks_iconst (x := nI 3) dX16_hashed_339 (by decide) rfl ?_
    refine ks_icmp_neN (tgt := 366) (by omega) (by decide) dX16_hashed_340 (by decide) rfl (fun h2 => ?_) (fun h2 => ?_)
    · have es : (sgOut G9 L u inp kd) o = bytL G9 (oA G9 L u o) (oS G9 L u o + oZ G9 L u o - oA G9 L u o) := if_neg (by omega)
      rw [es, bytL_len] at lT
      have y3 : y ≠ 373 := fun h => (hD 373 (by decide)).1 h.symm
      refine ks_aload_n dX16_hashed_366 rfl rfl ?_
      refine ks_aload_n dX16_hashed_367 rfl rfl ?_
      refine ks_getN (T := TX13) (kf := 0) kx_1813 rfl in_X13 cl_X13 (by decide) hP3 rfl dX16_hashed_368 rfl ?_
      refine ks_iload dX16_hashed_371 rfl rfl ?_
      refine ks_iload dX16_hashed_373 rfl rfl ?_
      refine ks_iload dX16_hashed_375 rfl rfl ?_
      refine ks_subN (by omega) dX16_hashed_377 rfl ?_
      refine ks_callV (n := 3) (M' := mX16_lay_) (c_md_layB (d := d + 3) o3 bu3 (y := y) (s := oA G9 L u o) (n := oS G9 L u o + oZ G9 L u o - oA G9 L u o) ey3 kg3 (by omega) (by omega) y3 (by omega)) o3 cl_X16 rfl kx_2264 kx_2266 kxp_109 kx_30 kx_2267 (by decide +kernel) rfl (by decide) (Nat.le_of_ble_eq_true rfl) rfl dX16_hashed_378 rfl (fun z4 S4 y4 => ?_)
      obtain ⟨rfl, V4, K4, B4⟩ := y4
      rw [bytL_congr (g := G9) (i2 := oA G9 L u o) (fun j hj => hg3 _ (by omega)), ← es] at B4
      have I4 := I3.bu hD K4 B4
      refine ks_incN (c := 1) (e := o + 1) dX16_hashed_381 rfl (by decide) rfl (by decide) rfl ?_
      refine ks_sub [(8, _), (0, _), (1, _), (2, _), (3, _), (4, _), (5, _), (7, _), (9, _), (10, _)] rfl ?_
      refine ks_goto (tgt := 305) dX16_hashed_384 (by decide) ?_
      exact ks_sub [(0, _), (1, _), (2, _), (3, _), (4, _), (5, _), (7, _), (8, _)] rfl (ih (o + 1) S4 V4 _ (by omega) I4 (by rw [← hX]; simp only [List.append_assoc]))
    · refine ks_iload dX16_hashed_343 rfl rfl ?_
      refine ks_iload_n dX16_hashed_345 rfl rfl ?_
      refine ks_icmp_geN (tgt := 366) (by omega) (by omega) dX16_hashed_346 (by decide) rfl (fun h3 => ?_) (fun h3 => ?_)
      · have es : (sgOut G9 L u inp kd) o = bytL G9 (oA G9 L u o) (oS G9 L u o + oZ G9 L u o - oA G9 L u o) := if_neg (by omega)
        rw [es, bytL_len] at lT
        have y3 : y ≠ 373 := fun h => (hD 373 (by decide)).1 h.symm
        refine ks_aload_n dX16_hashed_366 rfl rfl ?_
        refine ks_aload_n dX16_hashed_367 rfl rfl ?_
        refine ks_getN (T := TX13) (kf := 0) kx_1813 rfl in_X13 cl_X13 (by decide) hP3 rfl dX16_hashed_368 rfl ?_
        refine ks_iload dX16_hashed_371 rfl rfl ?_
        refine ks_iload dX16_hashed_373 rfl rfl ?_
        refine ks_iload dX16_hashed_375 rfl rfl ?_
        refine ks_subN (by omega) dX16_hashed_377 rfl ?_
        refine ks_callV (n := 3) (M' := mX16_lay_) (c_md_layB (d := d + 3) o3 bu3 (y := y) (s := oA G9 L u o) (n := oS G9 L u o + oZ G9 L u o - oA G9 L u o) ey3 kg3 (by omega) (by omega) y3 (by omega)) o3 cl_X16 rfl kx_2264 kx_2266 kxp_109 kx_30 kx_2267 (by decide +kernel) rfl (by decide) (Nat.le_of_ble_eq_true rfl) rfl dX16_hashed_378 rfl (fun z4 S4 y4 => ?_)
        obtain ⟨rfl, V4, K4, B4⟩ := y4
        rw [bytL_congr (g := G9) (i2 := oA G9 L u o) (fun j hj => hg3 _ (by omega)), ← es] at B4
        have I4 := I3.bu hD K4 B4
        refine ks_incN (c := 1) (e := o + 1) dX16_hashed_381 rfl (by decide) rfl (by decide) rfl ?_
        refine ks_sub [(8, _), (0, _), (1, _), (2, _), (3, _), (4, _), (5, _), (7, _), (9, _), (10, _)] rfl ?_
        refine ks_goto (tgt := 305) dX16_hashed_384 (by decide) ?_
        exact ks_sub [(0, _), (1, _), (2, _), (3, _), (4, _), (5, _), (7, _), (8, _)] rfl (ih (o + 1) S4 V4 _ (by omega) I4 (by rw [← hX]; simp only [List.append_assoc]))
      · have es : (sgOut G9 L u inp kd) o = numL (-1) 8 ++ cntL 0 := if_pos ⟨h2, by omega⟩
        rw [es, List.length_append, numL_len] at lT
        have lc : (cntL 0).length = 1 := rfl
        refine ks_aload_n dX16_hashed_349 rfl rfl ?_
        refine ks_ldc2 dX16_hashed_350 kx_2276 rfl ?_
        refine ks_bipush (x := nI 8) dX16_hashed_353 (by decide) rfl ?_
        refine ks_callV (n := 2) (M' := mX16_lay) (c_md_layN (d := d + 3) o3 bu3 (v := -1) (n := 8) (by decide) (by omega)) o3 cl_X16 rfl kx_2272 kx_2274 kxp_111 kx_30 kx_2275 (by decide +kernel) rfl (by decide) (Nat.le_of_ble_eq_true rfl) rfl dX16_hashed_355 rfl (fun z4 S4 y4 => ?_)
        obtain ⟨rfl, V4, K4, B4⟩ := y4
        have I4 := I3.bu hD K4 B4
        obtain ⟨hk4, pt4, ct4, ⟨mh4, gi4, ki4, i54⟩, ⟨gm4, km4, m64⟩, bu4⟩ := id I4
        obtain ⟨g4, A4, cc4, ⟨ey4, kg4⟩, ⟨hLN4, hN164, hPB4, ht124⟩, hg4, -, hP4, hA4, ⟨a04, a14⟩, ⟨a24, a34⟩, a44, a54⟩ := id pt4
        have o4 := hk4.2.1
        refine ks_aload_n dX16_hashed_358 rfl rfl ?_
        refine ks_lconst (x := lN 0) dX16_hashed_359 (by decide) rfl ?_
        refine ks_callV (n := 1) (M' := mX16_layCount) (c_md_layCount (d := d + 2) o4 bu4 (n := 0) (by decide) (by rw [List.length_append, numL_len]; omega)) o4 cl_X16 rfl kx_2268 kx_2270 kxp_110 kx_30 kx_2271 (by decide +kernel) rfl (by decide) (Nat.le_of_ble_eq_true rfl) rfl dX16_hashed_360 rfl (fun z5 S5 y5 => ?_)
        obtain ⟨rfl, V5, K5, B5⟩ := y5
        rw [List.append_assoc, ← es] at B5
        have I5 := I4.bu hD K5 B5
        refine ks_goto (tgt := 381) dX16_hashed_363 (by decide) ?_
        refine ks_incN (c := 1) (e := o + 1) dX16_hashed_381 rfl (by decide) rfl (by decide) rfl ?_
        refine ks_sub [(8, _), (0, _), (1, _), (2, _), (3, _), (4, _), (5, _), (7, _), (9, _), (10, _)] rfl ?_
        refine ks_goto (tgt := 305) dX16_hashed_384 (by decide) ?_
        exact ks_sub [(0, _), (1, _), (2, _), (3, _), (4, _), (5, _), (7, _), (8, _)] rfl (ih (o + 1) S5 V5 _ (by omega) I5 (by rw [← hX]; simp only [List.append_assoc]))
set_option maxRecDepth 100000 in
set_option maxHeartbeats 800000 in
theorem l_hsMidv {l : Launch} {G : ks_G} {d : Nat} {S : ks_S} {V V0 : Nat → Value} {S0 : ks_S} {P y N L t b k p m u e inp ty kd : Nat} {G9 : Nat → Nat} {c1 : List Nat} (hD : hsD P y) (hg9 : kO G9) (hi : inp < k) (hty : ty < 256) (hkd : kd = ty % 32) (htx : tx_ G9 b L = some (k, p, m, u, e)) {T : List Nat} (hT : T.length ≤ 16000) {X : List Nat} (I : hsIv S0 S V0 V P y N G9 L t b k p m u e c1 X) (h39 : kd = 3 → inp < m) (hX : X ++ cntL (sgSh m inp kd) ++ catF (sgOut G9 L u inp kd) 0 (sgSh m inp kd) ++ bytL G9 (e - 4) 4 ++ numL (lN ty) 4 = T) : ks_X l G mX16_hashed (d + 4) 265 [(0, .ref 290), (1, .ref P), (2, .int (nI t)), (3, .int (nI inp)), (4, .int (nI ty)), (5, .int (nI kd))] [] S (fun z S' => z = none ∧ ∃ V' X', hsIv S0 S' V0 V' P y N G9 L t b k p m u e c1 X' ∧ ∃ g, kO g ∧ S'.2.2 336 = some (kB 32 g) ∧ bytL g 0 32 = shaL (shaL T)) := by
  have bd := tx_bd htx
  have lT := congrArg List.length hX
  simp only [List.length_append] at lT
  rw [bytL_len, numL_len] at lT
  obtain ⟨hk1, pt1, ct1, ⟨mh1, gi1, ki1, i51⟩, ⟨gm1, km1, m61⟩, bu1⟩ := id I
  obtain ⟨g1, A1, cc1, ⟨ey1, kg1⟩, ⟨hLN1, hN161, hPB1, ht121⟩, hg1, -, hP1, hA1, ⟨a01, a11⟩, ⟨a21, a31⟩, a41, a51⟩ := id pt1
  have o1 := hk1.2.1
  refine ks_iload dX16_hashed_265 rfl rfl ?_
  refine ks_iconst (x := nI 2) dX16_hashed_267 (by decide) rfl ?_
  refine ks_icmp_neN (tgt := 275) (by omega) (by decide) dX16_hashed_268 (by decide) rfl (fun h1 => ?_) (fun h1 => ?_)
  · refine ks_iload dX16_hashed_275 rfl rfl ?_
    refine ks_iconst (x := nI 3) dX16_hashed_277 (by decide) rfl ?_
    refine ks_icmp_neN (tgt := 287) (by omega) (by decide) dX16_hashed_278 (by decide) rfl (fun h2 => ?_) (fun h2 => ?_)
    · refine ks_aload_n dX16_hashed_287 rfl rfl ?_
      refine ks_getN (T := TX13) (kf := 5) kx_1822 rfl in_X13 cl_X13 (by decide) hP1 rfl dX16_hashed_288 rfl ?_
      refine ks_iload_n dX16_hashed_291 rfl rfl ?_
      refine ks_ialdN (i := t) (show S.2.2 (P + 4) = some (kN 12 (A1 3)) from hA1 3 (by decide)) rfl (by omega) (by decide) dX16_hashed_292 rfl ?_
      rw [a31]
      have es : sgSh m inp kd = m := by unfold sgSh; rw [if_neg h1, if_neg h2]
      rw [es] at hX lT
      refine ks_istore dX16_hashed_293 (by decide) rfl ?_
      refine ks_sub [(7, _), (0, _), (1, _), (2, _), (3, _), (4, _), (5, _)] rfl ?_
      refine ks_aload_n dX16_hashed_295 rfl rfl ?_
      refine ks_iload dX16_hashed_296 rfl rfl ?_
      refine ks_i2lN (by omega) dX16_hashed_298 rfl ?_
      refine ks_callV (n := 1) (M' := mX16_layCount) (c_md_layCount (d := d + 2) o1 bu1 (n := m) (by omega) (by omega)) o1 cl_X16 rfl kx_2268 kx_2270 kxp_110 kx_30 kx_2271 (by decide +kernel) rfl (by decide) (Nat.le_of_ble_eq_true rfl) rfl dX16_hashed_299 rfl (fun z5 S5 y5 => ?_)
      obtain ⟨rfl, V5, K5, B5⟩ := y5
      have I5 := I.bu hD K5 B5
      refine ks_iconst (x := nI 0) dX16_hashed_302 (by decide) rfl ?_
      refine ks_istore dX16_hashed_303 (by decide) rfl ?_
      refine ks_sub [(8, _), (0, _), (1, _), (2, _), (3, _), (4, _), (5, _), (7, _)] rfl ?_
      exact ks_sub [(0, _), (1, _), (2, _), (3, _), (4, _), (5, _), (7, _), (8, _)] rfl (l_hsOutv (d := d) hD hg9 hi hty hkd htx hT (sh := m) (by omega) h39 (m) 0 S5 V5 _ (by omega) I5 hX)
    · have es : sgSh m inp kd = inp + 1 := by unfold sgSh; rw [if_neg h1, if_pos h2]
      rw [es] at hX lT
      refine ks_iload_n dX16_hashed_281 rfl rfl ?_
      refine ks_iconst (x := nI 1) dX16_hashed_282 (by decide) rfl ?_
      refine ks_addN dX16_hashed_283 rfl ?_
      refine ks_goto (tgt := 293) dX16_hashed_284 (by decide) ?_
      refine ks_istore dX16_hashed_293 (by decide) rfl ?_
      refine ks_sub [(7, _), (0, _), (1, _), (2, _), (3, _), (4, _), (5, _)] rfl ?_
      refine ks_aload_n dX16_hashed_295 rfl rfl ?_
      refine ks_iload dX16_hashed_296 rfl rfl ?_
      refine ks_i2lN (by omega) dX16_hashed_298 rfl ?_
      refine ks_callV (n := 1) (M' := mX16_layCount) (c_md_layCount (d := d + 2) o1 bu1 (n := inp + 1) (by omega) (by omega)) o1 cl_X16 rfl kx_2268 kx_2270 kxp_110 kx_30 kx_2271 (by decide +kernel) rfl (by decide) (Nat.le_of_ble_eq_true rfl) rfl dX16_hashed_299 rfl (fun z5 S5 y5 => ?_)
      obtain ⟨rfl, V5, K5, B5⟩ := y5
      have I5 := I.bu hD K5 B5
      refine ks_iconst (x := nI 0) dX16_hashed_302 (by decide) rfl ?_
      refine ks_istore dX16_hashed_303 (by decide) rfl ?_
      refine ks_sub [(8, _), (0, _), (1, _), (2, _), (3, _), (4, _), (5, _), (7, _)] rfl ?_
      exact ks_sub [(0, _), (1, _), (2, _), (3, _), (4, _), (5, _), (7, _), (8, _)] rfl (l_hsOutv (d := d) hD hg9 hi hty hkd htx hT (sh := inp + 1) (by omega) h39 (inp + 1) 0 S5 V5 _ (by omega) I5 hX)
  · have es : sgSh m inp kd = 0 := by unfold sgSh; rw [if_pos h1]
    rw [es] at hX lT
    refine ks_iconst (x := nI 0) dX16_hashed_271 (by decide) rfl ?_
    refine ks_goto (tgt := 293) dX16_hashed_272 (by decide) ?_
    refine ks_istore dX16_hashed_293 (by decide) rfl ?_
    refine ks_sub [(7, _), (0, _), (1, _), (2, _), (3, _), (4, _), (5, _)] rfl ?_
    refine ks_aload_n dX16_hashed_295 rfl rfl ?_
    refine ks_iload dX16_hashed_296 rfl rfl ?_
    refine ks_i2lN (by decide) dX16_hashed_298 rfl ?_
    refine ks_callV (n := 1) (M' := mX16_layCount) (c_md_layCount (d := d + 2) o1 bu1 (n := 0) (by omega) (by omega)) o1 cl_X16 rfl kx_2268 kx_2270 kxp_110 kx_30 kx_2271 (by decide +kernel) rfl (by decide) (Nat.le_of_ble_eq_true rfl) rfl dX16_hashed_299 rfl (fun z5 S5 y5 => ?_)
    obtain ⟨rfl, V5, K5, B5⟩ := y5
    have I5 := I.bu hD K5 B5
    refine ks_iconst (x := nI 0) dX16_hashed_302 (by decide) rfl ?_
    refine ks_istore dX16_hashed_303 (by decide) rfl ?_
    refine ks_sub [(8, _), (0, _), (1, _), (2, _), (3, _), (4, _), (5, _), (7, _)] rfl ?_
    exact ks_sub [(0, _), (1, _), (2, _), (3, _), (4, _), (5, _), (7, _), (8, _)] rfl (l_hsOutv (d := d) hD hg9 hi hty hkd htx hT (sh := 0) (by omega) h39 (0) 0 S5 V5 _ (by omega) I5 hX)
set_option maxRecDepth 100000 in
set_option maxHeartbeats 800000 in
theorem l_hsInv {l : Launch} {G : ks_G} {d : Nat} {V0 : Nat → Value} {S0 : ks_S} {P y N L t b k p m u e inp ty kd : Nat} {G9 : Nat → Nat} {c1 : List Nat} (hD : hsD P y) (hg9 : kO G9) (hi : inp < k) (hty : ty < 256) (hkd : kd = ty % 32) (htx : tx_ G9 b L = some (k, p, m, u, e)) {T : List Nat} (hT : T.length ≤ 16000) {al : Bool} (h39 : kd = 3 → inp < m) (hc16 : c1.length ≤ 1700) : ∀ (w i : Nat) (S : ks_S) (V : Nat → Value) (X : List Nat), i + w = k → hsIv S0 S V0 V P y N G9 L t b k p m u e c1 X → X ++ catF (fun i => if al = true ∧ i ≠ inp then [] else sgIn G9 L p inp kd c1 i) i w ++ (cntL (sgSh m inp kd) ++ catF (sgOut G9 L u inp kd) 0 (sgSh m inp kd) ++ bytL G9 (e - 4) 4 ++ numL (lN ty) 4) = T → ks_X l G mX16_hashed (d + 4) 121 [(0, .ref 290), (1, .ref P), (2, .int (nI t)), (3, .int (nI inp)), (4, .int (nI ty)), (5, .int (nI kd)), (6, .int (ks_bo al)), (7, .int (nI i))] [] S (fun z S' => z = none ∧ ∃ V' X', hsIv S0 S' V0 V' P y N G9 L t b k p m u e c1 X' ∧ ∃ g, kO g ∧ S'.2.2 336 = some (kB 32 g) ∧ bytL g 0 32 = shaL (shaL T)) := by
  have bd := tx_bd htx
  have hTi := tx_in htx
  intro w
  induction w with
  | zero =>
    intro i S V X ho I hX
    obtain ⟨hk1, pt1, ct1, ⟨mh1, gi1, ki1, i51⟩, ⟨gm1, km1, m61⟩, bu1⟩ := id I
    obtain ⟨g1, A1, cc1, ⟨ey1, kg1⟩, ⟨hLN1, hN161, hPB1, ht121⟩, hg1, -, hP1, hA1, ⟨a01, a11⟩, ⟨a21, a31⟩, a41, a51⟩ := id pt1
    have o1 := hk1.2.1
    refine ks_iload dX16_hashed_121 rfl rfl ?_
    refine ks_aload_n dX16_hashed_123 rfl rfl ?_
    refine ks_getN (T := TX13) (kf := 4) kx_1820 rfl in_X13 cl_X13 (by decide) hP1 rfl dX16_hashed_124 rfl ?_
    refine ks_iload_n dX16_hashed_127 rfl rfl ?_
    refine ks_ialdN (i := t) (show S.2.2 (P + 3) = some (kN 12 (A1 2)) from hA1 2 (by decide)) rfl (by omega) (by decide) dX16_hashed_128 rfl ?_
    rw [a21]
    refine ks_icmp_geN (tgt := 265) (by omega) (by omega) dX16_hashed_129 (by decide) rfl (fun h1 => ?_) (fun h1 => absurd h1 (by omega))
    have e0 : X ++ catF (fun i => if al = true ∧ i ≠ inp then [] else sgIn G9 L p inp kd c1 i) i 0 = X := List.append_nil _
    rw [e0] at hX
    exact ks_sub [(0, _), (1, _), (2, _), (3, _), (4, _), (5, _)] rfl (l_hsMidv (d := d) hD hg9 hi hty hkd htx hT I h39 (by rw [← hX]; simp only [List.append_assoc]))
  | succ w ih =>
    intro i S V X ho I hX
    obtain ⟨hk1, pt1, ct1, ⟨mh1, gi1, ki1, i51⟩, ⟨gm1, km1, m61⟩, bu1⟩ := id I
    obtain ⟨g1, A1, cc1, ⟨ey1, kg1⟩, ⟨hLN1, hN161, hPB1, ht121⟩, hg1, -, hP1, hA1, ⟨a01, a11⟩, ⟨a21, a31⟩, a41, a51⟩ := id pt1
    have o1 := hk1.2.1
    refine ks_iload dX16_hashed_121 rfl rfl ?_
    refine ks_aload_n dX16_hashed_123 rfl rfl ?_
    refine ks_getN (T := TX13) (kf := 4) kx_1820 rfl in_X13 cl_X13 (by decide) hP1 rfl dX16_hashed_124 rfl ?_
    refine ks_iload_n dX16_hashed_127 rfl rfl ?_
    refine ks_ialdN (i := t) (show S.2.2 (P + 3) = some (kN 12 (A1 2)) from hA1 2 (by decide)) rfl (by omega) (by decide) dX16_hashed_128 rfl ?_
    rw [a21]
    refine ks_icmp_geN (tgt := 265) (by omega) (by omega) dX16_hashed_129 (by decide) rfl (fun h1 => absurd h1 (by omega)) (fun h1 => ?_)
    have zb := hTi i (by omega)
    have ef : catF (fun i => if al = true ∧ i ≠ inp then [] else sgIn G9 L p inp kd c1 i) i (w + 1) = (fun i => if al = true ∧ i ≠ inp then [] else sgIn G9 L p inp kd c1 i) i ++ catF (fun i => if al = true ∧ i ≠ inp then [] else sgIn G9 L p inp kd c1 i) (i + 1) w := rfl
    rw [ef] at hX
    refine ks_iload dX16_hashed_132 rfl rfl ?_
    refine ks_if_eqZ (tgt := 146) dX16_hashed_134 (by decide) rfl (fun h2 => ?_) (fun h2 => ?_)
    · have es : (fun i => if al = true ∧ i ≠ inp then [] else sgIn G9 L p inp kd c1 i) i = sgIn G9 L p inp kd c1 i := if_neg (fun h => by have := h.1; rw [h2] at this; cases this)
      rw [es] at hX
      have lT := congrArg List.length hX
      simp only [List.length_append] at lT
      have ls : (sgIn G9 L p inp kd c1 i).length = 36 + (cntL (if i = inp then c1.length else 0)).length + (if i = inp then c1 else []).length + 4 := by
        unfold sgIn
        rw [List.length_append, List.length_append, List.length_append, bytL_len]
        congr 1
        split
        · exact numL_len _ _
        · exact bytL_len _ _ _
      rw [ls] at lT
      have y3 : y ≠ 373 := fun h => (hD 373 (by decide)).1 h.symm
      refine ks_aload_n dX16_hashed_146 rfl rfl ?_
      refine ks_aload_n dX16_hashed_147 rfl rfl ?_
      refine ks_iload_n dX16_hashed_148 rfl rfl ?_
      refine ks_iload dX16_hashed_149 rfl rfl ?_
      refine ks_callV (n := 3) (M' := mX16_input) (c_pt_inputv (d := d + 1) o1 pt1 (i := i) (by omega)) o1 cl_X16 rfl kx_2122 kx_2124 kxp_78 kx_30 kx_2125 (by decide +kernel) rfl (by decide) (Nat.le_of_ble_eq_true rfl) rfl dX16_hashed_151 rfl (fun z2 S2 y2 => ?_)
      obtain ⟨rfl, V2, K2⟩ := y2
      have I2 := I.sk hD K2
      obtain ⟨hk2, pt2, ct2, ⟨mh2, gi2, ki2, i52⟩, ⟨gm2, km2, m62⟩, bu2⟩ := id I2
      obtain ⟨g2, A2, cc2, ⟨ey2, kg2⟩, ⟨hLN2, hN162, hPB2, ht122⟩, hg2, -, hP2, hA2, ⟨a02, a12⟩, ⟨a22, a32⟩, a42, a52⟩ := id pt2
      have o2 := hk2.2.1
      refine ks_istore dX16_hashed_154 (by decide) rfl ?_
      refine ks_sub [(8, _), (0, _), (1, _), (2, _), (3, _), (4, _), (5, _), (6, _), (7, _)] rfl ?_
      refine ks_aload_n dX16_hashed_156 rfl rfl ?_
      refine ks_aload_n dX16_hashed_157 rfl rfl ?_
      refine ks_getN (T := TX13) (kf := 0) kx_1813 rfl in_X13 cl_X13 (by decide) hP2 rfl dX16_hashed_158 rfl ?_
      refine ks_iload dX16_hashed_161 rfl rfl ?_
      refine ks_bipush (x := nI 36) dX16_hashed_163 (by decide) rfl ?_
      refine ks_callV (n := 3) (M' := mX16_lay_) (c_md_layB (d := d + 3) o2 bu2 (y := y) (s := iA G9 L p i) (n := 36) ey2 kg2 (by omega) (by omega) y3 (by omega)) o2 cl_X16 rfl kx_2264 kx_2266 kxp_109 kx_30 kx_2267 (by decide +kernel) rfl (by decide) (Nat.le_of_ble_eq_true rfl) rfl dX16_hashed_165 rfl (fun z3 S3 y3 => ?_)
      obtain ⟨rfl, V3, K3, B3⟩ := y3
      rw [bytL_congr (g := G9) (i2 := iA G9 L p i) (fun j hj => hg2 _ (by omega))] at B3
      have I3 := I2.bu hD K3 B3
      obtain ⟨hk3, pt3, ct3, ⟨mh3, gi3, ki3, i53⟩, ⟨gm3, km3, m63⟩, bu3⟩ := id I3
      obtain ⟨g3, A3, cc3, ⟨ey3, kg3⟩, ⟨hLN3, hN163, hPB3, ht123⟩, hg3, -, hP3, hA3, ⟨a03, a13⟩, ⟨a23, a33⟩, a43, a53⟩ := id pt3
      have o3 := hk3.2.1
      refine ks_aload_n dX16_hashed_168 rfl rfl ?_
      refine ks_aload_n dX16_hashed_169 rfl rfl ?_
      refine ks_getN (T := TX13) (kf := 0) kx_1813 rfl in_X13 cl_X13 (by decide) hP3 rfl dX16_hashed_170 rfl ?_
      refine ks_iload dX16_hashed_173 rfl rfl ?_
      refine ks_bipush (x := nI 36) dX16_hashed_175 (by decide) rfl ?_
      refine ks_addN dX16_hashed_177 rfl ?_
      refine ks_callV (n := 2) (M' := mX16_script) (c_pt_scrIv (d := d + 2) o3 pt3 (i := i) (by omega)) o3 cl_X16 rfl kx_2126 kx_2128 kxp_79 kx_30 kx_2129 (by decide +kernel) rfl (by decide) (Nat.le_of_ble_eq_true rfl) rfl dX16_hashed_178 rfl (fun z4 S4 y4 => ?_)
      obtain ⟨rfl, V4, K4, -, -⟩ := y4
      have I4 := I3.sk hD K4
      obtain ⟨ca, cb, gca, gcb, hcab, v87, v88, eca, kca, ecb, kcb, v89, hcl, ecc⟩ := id I4.2.2.1
      obtain ⟨hk4, pt4, ct4, ⟨mh4, gi4, ki4, i54⟩, ⟨gm4, km4, m64⟩, bu4⟩ := id I4
      obtain ⟨g4, A4, cc4, ⟨ey4, kg4⟩, ⟨hLN4, hN164, hPB4, ht124⟩, hg4, -, hP4, hA4, ⟨a04, a14⟩, ⟨a24, a34⟩, a44, a54⟩ := id pt4
      have o4 := hk4.2.1
      refine ks_istore dX16_hashed_181 (by decide) rfl ?_
      refine ks_sub [(9, _), (0, _), (1, _), (2, _), (3, _), (4, _), (5, _), (6, _), (7, _), (8, _)] rfl ?_
      refine ks_aload_n dX16_hashed_183 rfl rfl ?_
      refine ks_iload dX16_hashed_184 rfl rfl ?_
      refine ks_iload_n dX16_hashed_186 rfl rfl ?_
      refine ks_icmp_neN (tgt := 198) (by omega) (by omega) dX16_hashed_187 (by decide) rfl (fun h5 => ?_) (fun h5 => ?_)
      · have ei : ¬ i = inp := h5
        rw [if_neg ei, if_neg ei] at lT
        have lc := cntL_len (0)
        have lc3 : (cntL (0)).length ≤ 3 := by rw [lc]; split <;> omega
        have l36 : (X ++ bytL G9 (iA G9 L p i) 36).length = X.length + 36 := by rw [List.length_append, bytL_len]
        refine ks_lconst (x := lN 0) dX16_hashed_198 (by decide) rfl ?_
        refine ks_callV (n := 1) (M' := mX16_layCount) (c_md_layCount (d := d + 2) o4 bu4 (n := 0) (by omega) (by rw [l36]; omega)) o4 cl_X16 rfl kx_2268 kx_2270 kxp_110 kx_30 kx_2271 (by decide +kernel) rfl (by decide) (Nat.le_of_ble_eq_true rfl) rfl dX16_hashed_199 rfl (fun z6 S6 y6 => ?_)
        obtain ⟨rfl, V6, K6, B6⟩ := y6
        have I6 := I4.bu hD K6 B6
        have l37 : (X ++ bytL G9 (iA G9 L p i) 36 ++ cntL (0)).length = X.length + 36 + (cntL (0)).length := by rw [List.length_append, l36]
        obtain ⟨hkz, ptz, ctz, ⟨mhz, giz, kiz, i5z⟩, ⟨gmz, kmz, m6z⟩, buz⟩ := id I6
        obtain ⟨gz, Az, ccz, ⟨eyz, kgz⟩, ⟨hLNz, hN16z, hPBz, ht12z⟩, hgz, -, hPz, hAz, ⟨a0z, a1z⟩, ⟨a2z, a3z⟩, a4z, a5z⟩ := id ptz
        have oz := hkz.2.1
        have lX := l37
        refine ks_iload dX16_hashed_202 rfl rfl ?_
        refine ks_iload_n dX16_hashed_204 rfl rfl ?_
        refine ks_icmp_neN (tgt := 221) (by omega) (by omega) dX16_hashed_205 (by decide) rfl (fun h6 => ?_) (fun h6 => ?_)
        · refine ks_aload_n dX16_hashed_221 rfl rfl ?_
          refine ks_iload dX16_hashed_222 rfl rfl ?_
          refine ks_iload_n dX16_hashed_224 rfl rfl ?_
          refine ks_icmp_eqN (tgt := 244) (by omega) (by omega) dX16_hashed_225 (by decide) rfl (fun h7 => ?_) (fun h7 => ?_)
          · omega
          · refine ks_iload dX16_hashed_228 rfl rfl ?_
            refine ks_iconst (x := nI 2) dX16_hashed_230 (by decide) rfl ?_
            refine ks_icmp_eqN (tgt := 240) (by omega) (by decide) dX16_hashed_231 (by decide) rfl (fun h8 => ?_) (fun h8 => ?_)
            · refine ks_lconst (x := lN 0) dX16_hashed_240 (by decide) rfl ?_
              refine ks_goto (tgt := 255) dX16_hashed_241 (by decide) ?_
              refine ks_iconst (x := nI 4) dX16_hashed_255 (by decide) rfl ?_
              refine ks_callV (n := 2) (M' := mX16_lay) (c_md_layN (d := d + 3) oz buz (v := lN 0) (n := 4) (by decide) (by omega)) oz cl_X16 rfl kx_2272 kx_2274 kxp_111 kx_30 kx_2275 (by decide +kernel) rfl (by decide) (Nat.le_of_ble_eq_true rfl) rfl dX16_hashed_256 rfl (fun z9 S9 y9 => ?_)
              obtain ⟨rfl, V9, K9, B9⟩ := y9
              have I9 := I6.bu hD K9 B9
              refine ks_incN (c := 1) (e := i + 1) dX16_hashed_259 rfl (by decide) rfl (by decide) rfl ?_
              refine ks_sub [(7, _), (0, _), (1, _), (2, _), (3, _), (4, _), (5, _), (6, _), (8, _), (9, _)] rfl ?_
              refine ks_goto (tgt := 121) dX16_hashed_262 (by decide) ?_
              have ev : sgIn G9 L p inp kd c1 i = bytL G9 (iA G9 L p i) 36 ++ cntL (0) ++ [] ++ numL (lN 0) 4 := by
                unfold sgIn
                rw [if_neg ei, if_neg ei, if_pos ⟨ei, Or.inl h8⟩]; rfl
              exact ks_sub [(0, _), (1, _), (2, _), (3, _), (4, _), (5, _), (6, _), (7, _)] rfl (ih (i + 1) S9 V9 _ (by omega) I9 (by rw [← hX, ev]; simp only [List.append_assoc, List.nil_append]))
            · refine ks_iload dX16_hashed_234 rfl rfl ?_
              refine ks_iconst (x := nI 3) dX16_hashed_236 (by decide) rfl ?_
              refine ks_icmp_neN (tgt := 244) (by omega) (by decide) dX16_hashed_237 (by decide) rfl (fun h9 => ?_) (fun h9 => ?_)
              · refine ks_aload_n dX16_hashed_244 rfl rfl ?_
                refine ks_aload_n dX16_hashed_245 rfl rfl ?_
                refine ks_getN (T := TX13) (kf := 0) kx_1813 rfl in_X13 cl_X13 (by decide) hPz rfl dX16_hashed_246 rfl ?_
                refine ks_iload dX16_hashed_249 rfl rfl ?_
                refine ks_iconst (x := nI 4) dX16_hashed_251 (by decide) rfl ?_
                refine ks_callV (n := 3) (M' := mX16_number) (c_pt_numv (d := d + 3) ptz (i := iS G9 L p i + iZ G9 L p i) (n := 4) (by omega) (by decide)) oz cl_X16 rfl kx_2020 kx_2022 kxp_68 kx_30 kx_2023 (by decide +kernel) rfl (by decide) (Nat.le_of_ble_eq_true rfl) rfl dX16_hashed_252 rfl (fun z8 S8 y8 => ?_)
                obtain ⟨rfl, hT8⟩ := y8
                obtain rfl := hT8.symm
                refine ks_iconst (x := nI 4) dX16_hashed_255 (by decide) rfl ?_
                refine ks_callV (n := 2) (M' := mX16_lay) (c_md_layN (d := d + 3) oz buz (v := lN (ks_num G9 (iS G9 L p i + iZ G9 L p i) 4)) (n := 4) (by decide) (by omega)) oz cl_X16 rfl kx_2272 kx_2274 kxp_111 kx_30 kx_2275 (by decide +kernel) rfl (by decide) (Nat.le_of_ble_eq_true rfl) rfl dX16_hashed_256 rfl (fun z9 S9 y9 => ?_)
                obtain ⟨rfl, V9, K9, B9⟩ := y9
                have I9 := I6.bu hD K9 B9
                refine ks_incN (c := 1) (e := i + 1) dX16_hashed_259 rfl (by decide) rfl (by decide) rfl ?_
                refine ks_sub [(7, _), (0, _), (1, _), (2, _), (3, _), (4, _), (5, _), (6, _), (8, _), (9, _)] rfl ?_
                refine ks_goto (tgt := 121) dX16_hashed_262 (by decide) ?_
                have ev : sgIn G9 L p inp kd c1 i = bytL G9 (iA G9 L p i) 36 ++ cntL (0) ++ [] ++ numL (lN (ks_num G9 (iS G9 L p i + iZ G9 L p i) 4)) 4 := by
                  unfold sgIn
                  rw [if_neg ei, if_neg ei, if_neg (fun h => by have := h.2; omega)]; rw [numL_bytes hg9]
                exact ks_sub [(0, _), (1, _), (2, _), (3, _), (4, _), (5, _), (6, _), (7, _)] rfl (ih (i + 1) S9 V9 _ (by omega) I9 (by rw [← hX, ev]; simp only [List.append_assoc, List.nil_append]))
              · refine ks_lconst (x := lN 0) dX16_hashed_240 (by decide) rfl ?_
                refine ks_goto (tgt := 255) dX16_hashed_241 (by decide) ?_
                refine ks_iconst (x := nI 4) dX16_hashed_255 (by decide) rfl ?_
                refine ks_callV (n := 2) (M' := mX16_lay) (c_md_layN (d := d + 3) oz buz (v := lN 0) (n := 4) (by decide) (by omega)) oz cl_X16 rfl kx_2272 kx_2274 kxp_111 kx_30 kx_2275 (by decide +kernel) rfl (by decide) (Nat.le_of_ble_eq_true rfl) rfl dX16_hashed_256 rfl (fun z9 S9 y9 => ?_)
                obtain ⟨rfl, V9, K9, B9⟩ := y9
                have I9 := I6.bu hD K9 B9
                refine ks_incN (c := 1) (e := i + 1) dX16_hashed_259 rfl (by decide) rfl (by decide) rfl ?_
                refine ks_sub [(7, _), (0, _), (1, _), (2, _), (3, _), (4, _), (5, _), (6, _), (8, _), (9, _)] rfl ?_
                refine ks_goto (tgt := 121) dX16_hashed_262 (by decide) ?_
                have ev : sgIn G9 L p inp kd c1 i = bytL G9 (iA G9 L p i) 36 ++ cntL (0) ++ [] ++ numL (lN 0) 4 := by
                  unfold sgIn
                  rw [if_neg ei, if_neg ei, if_pos ⟨ei, Or.inr h9⟩]; rfl
                exact ks_sub [(0, _), (1, _), (2, _), (3, _), (4, _), (5, _), (6, _), (7, _)] rfl (ih (i + 1) S9 V9 _ (by omega) I9 (by rw [← hX, ev]; simp only [List.append_assoc, List.nil_append]))
        · omega
      · have ei : i = inp := h5
        rw [if_pos ei, if_pos ei] at lT
        have lc := cntL_len (c1.length)
        have lc3 : (cntL (c1.length)).length ≤ 3 := by rw [lc]; split <;> omega
        have l36 : (X ++ bytL G9 (iA G9 L p i) 36).length = X.length + 36 := by rw [List.length_append, bytL_len]
        refine ks_aload_n dX16_hashed_190 rfl rfl ?_
        refine ks_getf (T := TX16) (kf := 89) kx_2457 rfl in_X16 cl_X16 (by decide) o4 rfl dX16_hashed_191 rfl ?_
        refine ks_tv v89 ?_
        refine ks_i2lN (by omega) dX16_hashed_194 rfl ?_
        refine ks_goto (tgt := 199) dX16_hashed_195 (by decide) ?_
        refine ks_callV (n := 1) (M' := mX16_layCount) (c_md_layCount (d := d + 2) o4 bu4 (n := c1.length) (by omega) (by rw [l36]; omega)) o4 cl_X16 rfl kx_2268 kx_2270 kxp_110 kx_30 kx_2271 (by decide +kernel) rfl (by decide) (Nat.le_of_ble_eq_true rfl) rfl dX16_hashed_199 rfl (fun z6 S6 y6 => ?_)
        obtain ⟨rfl, V6, K6, B6⟩ := y6
        have I6 := I4.bu hD K6 B6
        have l37 : (X ++ bytL G9 (iA G9 L p i) 36 ++ cntL (c1.length)).length = X.length + 36 + (cntL (c1.length)).length := by rw [List.length_append, l36]
        obtain ⟨cd, ce, gcd, gce, hcde, w87, w88, ecd, kcd, ece, kce, w89, hcl2, ecc2⟩ := id I6.2.2.1
        obtain ⟨hk6, pt6, ct6, ⟨mh6, gi6, ki6, i56⟩, ⟨gm6, km6, m66⟩, bu6⟩ := id I6
        obtain ⟨g6, A6, cc6, ⟨ey6, kg6⟩, ⟨hLN6, hN166, hPB6, ht126⟩, hg6, -, hP6, hA6, ⟨a06, a16⟩, ⟨a26, a36⟩, a46, a56⟩ := id pt6
        have o6 := hk6.2.1
        refine ks_iload dX16_hashed_202 rfl rfl ?_
        refine ks_iload_n dX16_hashed_204 rfl rfl ?_
        refine ks_icmp_neN (tgt := 221) (by omega) (by omega) dX16_hashed_205 (by decide) rfl (fun h6 => ?_) (fun h6 => ?_)
        · omega
        · refine ks_aload_n dX16_hashed_208 rfl rfl ?_
          refine ks_aload_n dX16_hashed_209 rfl rfl ?_
          refine ks_getf (T := TX16) (kf := 87) kx_2455 rfl in_X16 cl_X16 (by decide) o6 rfl dX16_hashed_210 rfl ?_
          refine ks_tv w87 ?_
          refine ks_iconst (x := nI 0) dX16_hashed_213 (by decide) rfl ?_
          refine ks_aload_n dX16_hashed_214 rfl rfl ?_
          refine ks_getf (T := TX16) (kf := 89) kx_2457 rfl in_X16 cl_X16 (by decide) o6 rfl dX16_hashed_215 rfl ?_
          refine ks_tv w89 ?_
          refine ks_callV (n := 3) (M' := mX16_lay_) (c_md_layB (d := d + 3) o6 bu6 (y := cd) (s := 0) (n := c1.length) ecd kcd (by omega) (by decide) (by omega) (by rw [l37]; omega)) o6 cl_X16 rfl kx_2264 kx_2266 kxp_109 kx_30 kx_2267 (by decide +kernel) rfl (by decide) (Nat.le_of_ble_eq_true rfl) rfl dX16_hashed_218 rfl (fun z7 S7 y7 => ?_)
          obtain ⟨rfl, V7, K7, B7⟩ := y7
          rw [← ecc2] at B7
          have I7 := I6.bu hD K7 B7
          obtain ⟨hkz, ptz, ctz, ⟨mhz, giz, kiz, i5z⟩, ⟨gmz, kmz, m6z⟩, buz⟩ := id I7
          obtain ⟨gz, Az, ccz, ⟨eyz, kgz⟩, ⟨hLNz, hN16z, hPBz, ht12z⟩, hgz, -, hPz, hAz, ⟨a0z, a1z⟩, ⟨a2z, a3z⟩, a4z, a5z⟩ := id ptz
          have oz := hkz.2.1
          have lX : (X ++ bytL G9 (iA G9 L p i) 36 ++ cntL c1.length ++ c1).length = X.length + 36 + (cntL c1.length).length + c1.length := by rw [List.length_append, l37]
          refine ks_aload_n dX16_hashed_221 rfl rfl ?_
          refine ks_iload dX16_hashed_222 rfl rfl ?_
          refine ks_iload_n dX16_hashed_224 rfl rfl ?_
          refine ks_icmp_eqN (tgt := 244) (by omega) (by omega) dX16_hashed_225 (by decide) rfl (fun h7 => ?_) (fun h7 => ?_)
          · refine ks_aload_n dX16_hashed_244 rfl rfl ?_
            refine ks_aload_n dX16_hashed_245 rfl rfl ?_
            refine ks_getN (T := TX13) (kf := 0) kx_1813 rfl in_X13 cl_X13 (by decide) hPz rfl dX16_hashed_246 rfl ?_
            refine ks_iload dX16_hashed_249 rfl rfl ?_
            refine ks_iconst (x := nI 4) dX16_hashed_251 (by decide) rfl ?_
            refine ks_callV (n := 3) (M' := mX16_number) (c_pt_numv (d := d + 3) ptz (i := iS G9 L p i + iZ G9 L p i) (n := 4) (by omega) (by decide)) oz cl_X16 rfl kx_2020 kx_2022 kxp_68 kx_30 kx_2023 (by decide +kernel) rfl (by decide) (Nat.le_of_ble_eq_true rfl) rfl dX16_hashed_252 rfl (fun z8 S8 y8 => ?_)
            obtain ⟨rfl, hT8⟩ := y8
            obtain rfl := hT8.symm
            refine ks_iconst (x := nI 4) dX16_hashed_255 (by decide) rfl ?_
            refine ks_callV (n := 2) (M' := mX16_lay) (c_md_layN (d := d + 3) oz buz (v := lN (ks_num G9 (iS G9 L p i + iZ G9 L p i) 4)) (n := 4) (by decide) (by omega)) oz cl_X16 rfl kx_2272 kx_2274 kxp_111 kx_30 kx_2275 (by decide +kernel) rfl (by decide) (Nat.le_of_ble_eq_true rfl) rfl dX16_hashed_256 rfl (fun z9 S9 y9 => ?_)
            obtain ⟨rfl, V9, K9, B9⟩ := y9
            have I9 := I7.bu hD K9 B9
            refine ks_incN (c := 1) (e := i + 1) dX16_hashed_259 rfl (by decide) rfl (by decide) rfl ?_
            refine ks_sub [(7, _), (0, _), (1, _), (2, _), (3, _), (4, _), (5, _), (6, _), (8, _), (9, _)] rfl ?_
            refine ks_goto (tgt := 121) dX16_hashed_262 (by decide) ?_
            have ev : sgIn G9 L p inp kd c1 i = bytL G9 (iA G9 L p i) 36 ++ cntL (c1.length) ++ c1 ++ numL (lN (ks_num G9 (iS G9 L p i + iZ G9 L p i) 4)) 4 := by
              unfold sgIn
              rw [if_pos ei, if_pos ei, if_neg (fun h => h.1 ei)]; rw [numL_bytes hg9]
            exact ks_sub [(0, _), (1, _), (2, _), (3, _), (4, _), (5, _), (6, _), (7, _)] rfl (ih (i + 1) S9 V9 _ (by omega) I9 (by rw [← hX, ev]; simp only [List.append_assoc, List.nil_append]))
          · omega
    · refine ks_iload dX16_hashed_137 rfl rfl ?_
      refine ks_iload_n dX16_hashed_139 rfl rfl ?_
      refine ks_icmp_eqN (tgt := 146) (by omega) (by omega) dX16_hashed_140 (by decide) rfl (fun h3 => ?_) (fun h3 => ?_)
      · have es : (fun i => if al = true ∧ i ≠ inp then [] else sgIn G9 L p inp kd c1 i) i = sgIn G9 L p inp kd c1 i := if_neg (fun h => h.2 h3)
        rw [es] at hX
        have lT := congrArg List.length hX
        simp only [List.length_append] at lT
        have ls : (sgIn G9 L p inp kd c1 i).length = 36 + (cntL (if i = inp then c1.length else 0)).length + (if i = inp then c1 else []).length + 4 := by
          unfold sgIn
          rw [List.length_append, List.length_append, List.length_append, bytL_len]
          congr 1
          split
          · exact numL_len _ _
          · exact bytL_len _ _ _
        rw [ls] at lT
        have y3 : y ≠ 373 := fun h => (hD 373 (by decide)).1 h.symm
        refine ks_aload_n dX16_hashed_146 rfl rfl ?_
        refine ks_aload_n dX16_hashed_147 rfl rfl ?_
        refine ks_iload_n dX16_hashed_148 rfl rfl ?_
        refine ks_iload dX16_hashed_149 rfl rfl ?_
        refine ks_callV (n := 3) (M' := mX16_input) (c_pt_inputv (d := d + 1) o1 pt1 (i := i) (by omega)) o1 cl_X16 rfl kx_2122 kx_2124 kxp_78 kx_30 kx_2125 (by decide +kernel) rfl (by decide) (Nat.le_of_ble_eq_true rfl) rfl dX16_hashed_151 rfl (fun z2 S2 y2 => ?_)
        obtain ⟨rfl, V2, K2⟩ := y2
        have I2 := I.sk hD K2
        obtain ⟨hk2, pt2, ct2, ⟨mh2, gi2, ki2, i52⟩, ⟨gm2, km2, m62⟩, bu2⟩ := id I2
        obtain ⟨g2, A2, cc2, ⟨ey2, kg2⟩, ⟨hLN2, hN162, hPB2, ht122⟩, hg2, -, hP2, hA2, ⟨a02, a12⟩, ⟨a22, a32⟩, a42, a52⟩ := id pt2
        have o2 := hk2.2.1
        refine ks_istore dX16_hashed_154 (by decide) rfl ?_
        refine ks_sub [(8, _), (0, _), (1, _), (2, _), (3, _), (4, _), (5, _), (6, _), (7, _)] rfl ?_
        refine ks_aload_n dX16_hashed_156 rfl rfl ?_
        refine ks_aload_n dX16_hashed_157 rfl rfl ?_
        refine ks_getN (T := TX13) (kf := 0) kx_1813 rfl in_X13 cl_X13 (by decide) hP2 rfl dX16_hashed_158 rfl ?_
        refine ks_iload dX16_hashed_161 rfl rfl ?_
        refine ks_bipush (x := nI 36) dX16_hashed_163 (by decide) rfl ?_
        refine ks_callV (n := 3) (M' := mX16_lay_) (c_md_layB (d := d + 3) o2 bu2 (y := y) (s := iA G9 L p i) (n := 36) ey2 kg2 (by omega) (by omega) y3 (by omega)) o2 cl_X16 rfl kx_2264 kx_2266 kxp_109 kx_30 kx_2267 (by decide +kernel) rfl (by decide) (Nat.le_of_ble_eq_true rfl) rfl dX16_hashed_165 rfl (fun z3 S3 y3 => ?_)
        obtain ⟨rfl, V3, K3, B3⟩ := y3
        rw [bytL_congr (g := G9) (i2 := iA G9 L p i) (fun j hj => hg2 _ (by omega))] at B3
        have I3 := I2.bu hD K3 B3
        obtain ⟨hk3, pt3, ct3, ⟨mh3, gi3, ki3, i53⟩, ⟨gm3, km3, m63⟩, bu3⟩ := id I3
        obtain ⟨g3, A3, cc3, ⟨ey3, kg3⟩, ⟨hLN3, hN163, hPB3, ht123⟩, hg3, -, hP3, hA3, ⟨a03, a13⟩, ⟨a23, a33⟩, a43, a53⟩ := id pt3
        have o3 := hk3.2.1
        refine ks_aload_n dX16_hashed_168 rfl rfl ?_
        refine ks_aload_n dX16_hashed_169 rfl rfl ?_
        refine ks_getN (T := TX13) (kf := 0) kx_1813 rfl in_X13 cl_X13 (by decide) hP3 rfl dX16_hashed_170 rfl ?_
        refine ks_iload dX16_hashed_173 rfl rfl ?_
        refine ks_bipush (x := nI 36) dX16_hashed_175 (by decide) rfl ?_
        refine ks_addN dX16_hashed_177 rfl ?_
        refine ks_callV (n := 2) (M' := mX16_script) (c_pt_scrIv (d := d + 2) o3 pt3 (i := i) (by omega)) o3 cl_X16 rfl kx_2126 kx_2128 kxp_79 kx_30 kx_2129 (by decide +kernel) rfl (by decide) (Nat.le_of_ble_eq_true rfl) rfl dX16_hashed_178 rfl (fun z4 S4 y4 => ?_)
        obtain ⟨rfl, V4, K4, -, -⟩ := y4
        have I4 := I3.sk hD K4
        obtain ⟨ca, cb, gca, gcb, hcab, v87, v88, eca, kca, ecb, kcb, v89, hcl, ecc⟩ := id I4.2.2.1
        obtain ⟨hk4, pt4, ct4, ⟨mh4, gi4, ki4, i54⟩, ⟨gm4, km4, m64⟩, bu4⟩ := id I4
        obtain ⟨g4, A4, cc4, ⟨ey4, kg4⟩, ⟨hLN4, hN164, hPB4, ht124⟩, hg4, -, hP4, hA4, ⟨a04, a14⟩, ⟨a24, a34⟩, a44, a54⟩ := id pt4
        have o4 := hk4.2.1
        refine ks_istore dX16_hashed_181 (by decide) rfl ?_
        refine ks_sub [(9, _), (0, _), (1, _), (2, _), (3, _), (4, _), (5, _), (6, _), (7, _), (8, _)] rfl ?_
        refine ks_aload_n dX16_hashed_183 rfl rfl ?_
        refine ks_iload dX16_hashed_184 rfl rfl ?_
        refine ks_iload_n dX16_hashed_186 rfl rfl ?_
        refine ks_icmp_neN (tgt := 198) (by omega) (by omega) dX16_hashed_187 (by decide) rfl (fun h5 => ?_) (fun h5 => ?_)
        · omega
        · have ei : i = inp := h5
          rw [if_pos ei, if_pos ei] at lT
          have lc := cntL_len (c1.length)
          have lc3 : (cntL (c1.length)).length ≤ 3 := by rw [lc]; split <;> omega
          have l36 : (X ++ bytL G9 (iA G9 L p i) 36).length = X.length + 36 := by rw [List.length_append, bytL_len]
          refine ks_aload_n dX16_hashed_190 rfl rfl ?_
          refine ks_getf (T := TX16) (kf := 89) kx_2457 rfl in_X16 cl_X16 (by decide) o4 rfl dX16_hashed_191 rfl ?_
          refine ks_tv v89 ?_
          refine ks_i2lN (by omega) dX16_hashed_194 rfl ?_
          refine ks_goto (tgt := 199) dX16_hashed_195 (by decide) ?_
          refine ks_callV (n := 1) (M' := mX16_layCount) (c_md_layCount (d := d + 2) o4 bu4 (n := c1.length) (by omega) (by rw [l36]; omega)) o4 cl_X16 rfl kx_2268 kx_2270 kxp_110 kx_30 kx_2271 (by decide +kernel) rfl (by decide) (Nat.le_of_ble_eq_true rfl) rfl dX16_hashed_199 rfl (fun z6 S6 y6 => ?_)
          obtain ⟨rfl, V6, K6, B6⟩ := y6
          have I6 := I4.bu hD K6 B6
          have l37 : (X ++ bytL G9 (iA G9 L p i) 36 ++ cntL (c1.length)).length = X.length + 36 + (cntL (c1.length)).length := by rw [List.length_append, l36]
          obtain ⟨cd, ce, gcd, gce, hcde, w87, w88, ecd, kcd, ece, kce, w89, hcl2, ecc2⟩ := id I6.2.2.1
          obtain ⟨hk6, pt6, ct6, ⟨mh6, gi6, ki6, i56⟩, ⟨gm6, km6, m66⟩, bu6⟩ := id I6
          obtain ⟨g6, A6, cc6, ⟨ey6, kg6⟩, ⟨hLN6, hN166, hPB6, ht126⟩, hg6, -, hP6, hA6, ⟨a06, a16⟩, ⟨a26, a36⟩, a46, a56⟩ := id pt6
          have o6 := hk6.2.1
          refine ks_iload dX16_hashed_202 rfl rfl ?_
          refine ks_iload_n dX16_hashed_204 rfl rfl ?_
          refine ks_icmp_neN (tgt := 221) (by omega) (by omega) dX16_hashed_205 (by decide) rfl (fun h6 => ?_) (fun h6 => ?_)
          · omega
          · refine ks_aload_n dX16_hashed_208 rfl rfl ?_
            refine ks_aload_n dX16_hashed_209 rfl rfl ?_
            refine ks_getf (T := TX16) (kf := 87) kx_2455 rfl in_X16 cl_X16 (by decide) o6 rfl dX16_hashed_210 rfl ?_
            refine ks_tv w87 ?_
            refine ks_iconst (x := nI 0) dX16_hashed_213 (by decide) rfl ?_
            refine ks_aload_n dX16_hashed_214 rfl rfl ?_
            refine ks_getf (T := TX16) (kf := 89) kx_2457 rfl in_X16 cl_X16 (by decide) o6 rfl dX16_hashed_215 rfl ?_
            refine ks_tv w89 ?_
            refine ks_callV (n := 3) (M' := mX16_lay_) (c_md_layB (d := d + 3) o6 bu6 (y := cd) (s := 0) (n := c1.length) ecd kcd (by omega) (by decide) (by omega) (by rw [l37]; omega)) o6 cl_X16 rfl kx_2264 kx_2266 kxp_109 kx_30 kx_2267 (by decide +kernel) rfl (by decide) (Nat.le_of_ble_eq_true rfl) rfl dX16_hashed_218 rfl (fun z7 S7 y7 => ?_)
            obtain ⟨rfl, V7, K7, B7⟩ := y7
            rw [← ecc2] at B7
            have I7 := I6.bu hD K7 B7
            obtain ⟨hkz, ptz, ctz, ⟨mhz, giz, kiz, i5z⟩, ⟨gmz, kmz, m6z⟩, buz⟩ := id I7
            obtain ⟨gz, Az, ccz, ⟨eyz, kgz⟩, ⟨hLNz, hN16z, hPBz, ht12z⟩, hgz, -, hPz, hAz, ⟨a0z, a1z⟩, ⟨a2z, a3z⟩, a4z, a5z⟩ := id ptz
            have oz := hkz.2.1
            have lX : (X ++ bytL G9 (iA G9 L p i) 36 ++ cntL c1.length ++ c1).length = X.length + 36 + (cntL c1.length).length + c1.length := by rw [List.length_append, l37]
            refine ks_aload_n dX16_hashed_221 rfl rfl ?_
            refine ks_iload dX16_hashed_222 rfl rfl ?_
            refine ks_iload_n dX16_hashed_224 rfl rfl ?_
            refine ks_icmp_eqN (tgt := 244) (by omega) (by omega) dX16_hashed_225 (by decide) rfl (fun h7 => ?_) (fun h7 => ?_)
            · refine ks_aload_n dX16_hashed_244 rfl rfl ?_
              refine ks_aload_n dX16_hashed_245 rfl rfl ?_
              refine ks_getN (T := TX13) (kf := 0) kx_1813 rfl in_X13 cl_X13 (by decide) hPz rfl dX16_hashed_246 rfl ?_
              refine ks_iload dX16_hashed_249 rfl rfl ?_
              refine ks_iconst (x := nI 4) dX16_hashed_251 (by decide) rfl ?_
              refine ks_callV (n := 3) (M' := mX16_number) (c_pt_numv (d := d + 3) ptz (i := iS G9 L p i + iZ G9 L p i) (n := 4) (by omega) (by decide)) oz cl_X16 rfl kx_2020 kx_2022 kxp_68 kx_30 kx_2023 (by decide +kernel) rfl (by decide) (Nat.le_of_ble_eq_true rfl) rfl dX16_hashed_252 rfl (fun z8 S8 y8 => ?_)
              obtain ⟨rfl, hT8⟩ := y8
              obtain rfl := hT8.symm
              refine ks_iconst (x := nI 4) dX16_hashed_255 (by decide) rfl ?_
              refine ks_callV (n := 2) (M' := mX16_lay) (c_md_layN (d := d + 3) oz buz (v := lN (ks_num G9 (iS G9 L p i + iZ G9 L p i) 4)) (n := 4) (by decide) (by omega)) oz cl_X16 rfl kx_2272 kx_2274 kxp_111 kx_30 kx_2275 (by decide +kernel) rfl (by decide) (Nat.le_of_ble_eq_true rfl) rfl dX16_hashed_256 rfl (fun z9 S9 y9 => ?_)
              obtain ⟨rfl, V9, K9, B9⟩ := y9
              have I9 := I7.bu hD K9 B9
              refine ks_incN (c := 1) (e := i + 1) dX16_hashed_259 rfl (by decide) rfl (by decide) rfl ?_
              refine ks_sub [(7, _), (0, _), (1, _), (2, _), (3, _), (4, _), (5, _), (6, _), (8, _), (9, _)] rfl ?_
              refine ks_goto (tgt := 121) dX16_hashed_262 (by decide) ?_
              have ev : sgIn G9 L p inp kd c1 i = bytL G9 (iA G9 L p i) 36 ++ cntL (c1.length) ++ c1 ++ numL (lN (ks_num G9 (iS G9 L p i + iZ G9 L p i) 4)) 4 := by
                unfold sgIn
                rw [if_pos ei, if_pos ei, if_neg (fun h => h.1 ei)]; rw [numL_bytes hg9]
              exact ks_sub [(0, _), (1, _), (2, _), (3, _), (4, _), (5, _), (6, _), (7, _)] rfl (ih (i + 1) S9 V9 _ (by omega) I9 (by rw [← hX, ev]; simp only [List.append_assoc, List.nil_append]))
            · omega
      · have es : (fun i => if al = true ∧ i ≠ inp then [] else sgIn G9 L p inp kd c1 i) i = [] := if_pos ⟨h2, h3⟩
        rw [es, List.nil_append] at hX
        refine ks_goto (tgt := 259) dX16_hashed_143 (by decide) ?_
        refine ks_incN (c := 1) (e := i + 1) dX16_hashed_259 rfl (by decide) rfl (by decide) rfl ?_
        refine ks_sub [(7, _), (0, _), (1, _), (2, _), (3, _), (4, _), (5, _), (6, _)] rfl ?_
        refine ks_goto (tgt := 121) dX16_hashed_262 (by decide) ?_
        exact ks_sub [(0, _), (1, _), (2, _), (3, _), (4, _), (5, _), (6, _), (7, _)] rfl (ih (i + 1) S V X (by omega) I hX)
set_option maxRecDepth 100000 in
set_option maxHeartbeats 1600000 in
theorem c_pt_hashedv {l : Launch} {G : ks_G} {d : Nat} {S : ks_S} {V : Nat → Value} {P y N L t b k p m u e inp ty : Nat} {G9 : Nat → Nat} {c X0 : List Nat} {g5 g6 : Nat → Nat} (hO : S.2.2 290 = some (rfE V)) (hK : ptQv S P y N G9 L t b k p m u e) (hg9 : kO G9) (hC : ctX S V c) (hM : mhR S) (h305 : S.2.2 305 = some (kB 32 g5)) (k5 : kO g5) (h336 : S.2.2 336 = some (kB 32 g6)) (k6 : kO g6) (hB : buX S V 373 16384 91 X0) (hD : hsD P y) (hi : inp < k) (hty : ty < 256) (hf : ¬ (ty % 32 = 3 ∧ m ≤ inp) → (sgL G9 L b k p m u e inp ty (fl_ (fun o _ => decide (o = 171)) c)).length ≤ 16000) : ks_P l G yX16_hashed mX16_hashed (d + 5) [.ref 290, .ref P, .int (nI t), .int (nI inp), .int (nI ty)] S (fun z S' => z = none ∧ ∃ V' X', hsIv S S' V V' P y N G9 L t b k p m u e (fl_ (fun o _ => decide (o = 171)) c) X' ∧ ∃ g, kO g ∧ S'.2.2 336 = some (kB 32 g) ∧ bytL g 0 32 = sgH G9 L b k p m u e inp ty (fl_ (fun o _ => decide (o = 171)) c)) := by
  obtain ⟨kd, ekd⟩ : ∃ kd, kd = ty % 32 := ⟨_, rfl⟩
  have htx : tx_ G9 b L = some (k, p, m, u, e) := by obtain ⟨_, _, _, _, _, _, h, _⟩ := hK; exact h
  have bd := tx_bd htx
  refine ks_of (by decide) rfl rfl (Nat.le_of_ble_eq_true rfl) ?_
  show ks_X l G mX16_hashed (d + 5) 0 [(0, .ref 290), (1, .ref P), (2, .int (nI t)), (3, .int (nI inp)), (4, .int (nI ty))] [] S _
  refine ks_aload_n dX16_hashed_0 rfl rfl ?_
  refine ks_callV (n := 0) (M' := mX16_unmarked) (c_md_unmarked (d := d + 2) hO hC) hO cl_X16 rfl kx_2260 kx_2262 kxp_108 kx_30 kx_2263 (by decide +kernel) rfl (by decide) (Nat.le_of_ble_eq_true rfl) rfl dX16_hashed_1 rfl (fun z1 S1 y1 => ?_)
  obtain ⟨rfl, V1, K1, C1⟩ := y1
  obtain ⟨c1, ec1⟩ : ∃ c1, c1 = (fl_ (fun o _ => decide (o = 171)) c) := ⟨_, rfl⟩
  rw [← ec1] at C1 hf ⊢
  have hc17 : c1.length ≤ 1700 := by obtain ⟨_, _, _, _, _, _, _, _, _, _, _, _, h, _⟩ := C1; exact h
  have I1 : hsIv S S1 V V1 P y N G9 L t b k p m u e c1 X0 := ⟨⟨K1.1.mono (by decide), K1.2.1, fun j a1 a2 a3 a4 a5 a6 a7 => K1.2.2 j a3 a4 a5 a6⟩, hK.up K1.1 (fun x hx => hD x (by simp only [List.mem_cons, List.not_mem_nil, or_false] at hx; rcases hx with rfl | rfl | rfl <;> decide)), C1, ⟨hM.up K1.1 (by decide), g5, k5, K1.1.at h305 (by decide)⟩, ⟨g6, k6, K1.1.at h336 (by decide)⟩, hB.up K1.1 (by decide) (K1.2.2 _ (by decide) (by decide) (by decide) (by decide))⟩
  refine ks_iload dX16_hashed_4 rfl rfl ?_
  refine ks_bipush (x := nI 31) dX16_hashed_6 (by decide) rfl ?_
  refine ks_andN (k := 5) (by omega) (by decide) dX16_hashed_8 rfl ?_
  rw [show ty % 2 ^ 5 = kd from ekd.symm]
  refine ks_istore dX16_hashed_9 (by decide) rfl ?_
  refine ks_sub [(5, _), (0, _), (1, _), (2, _), (3, _), (4, _)] rfl ?_
  refine ks_iconst (x := nI 0) dX16_hashed_11 (by decide) rfl ?_
  refine ks_istore dX16_hashed_12 (by decide) rfl ?_
  refine ks_sub [(6, _), (0, _), (1, _), (2, _), (3, _), (4, _), (5, _)] rfl ?_
  refine ks_sub [(0, _), (1, _), (2, _), (3, _), (4, _), (5, _), (6, _)] rfl (l_hsMsg (d := d + 5) K1.2.1 (fun S2 gm u2 e2 kmm hm2 => ?_) 32 0 S1 g6 rfl (ks_up.rf _ _) (K1.1.at h336 (by decide)) k6 (fun j h => absurd h (Nat.not_lt_zero _)))
  obtain ⟨hk1, pt1, ct1, ⟨mh1, gi1, ki1, i51⟩, -, bu1⟩ := id I1
  have I2 : hsIv S S2 V V1 P y N G9 L t b k p m u e c1 X0 := ⟨⟨hk1.1.trans (u2.mono (by decide)), u2.at hk1.2.1 (by decide), hk1.2.2⟩, pt1.up u2 (fun x hx => hD x (by rw [List.mem_singleton] at hx; rw [hx]; decide)), ct1.up u2 (by decide) ⟨rfl, rfl, rfl⟩, ⟨mh1.up u2 (by decide), gi1, ki1, u2.at i51 (by decide)⟩, ⟨gm, kmm, e2⟩, bu1.up u2 (by decide) rfl⟩
  obtain ⟨hk2, pt2, ct2, ⟨mh2, gi2, ki2, i52⟩, ⟨gm2, km2, m62⟩, bu2⟩ := id I2
  obtain ⟨g2, A2, cc2, ⟨ey2, kg2⟩, ⟨hLN2, hN162, hPB2, ht122⟩, hg2, -, hP2, hA2, ⟨a02, a12⟩, ⟨a22, a32⟩, a42, a52⟩ := id pt2
  have o2 := hk2.2.1
  have go_ : ¬ (kd = 3 ∧ m ≤ inp) → ks_X l G mX16_hashed (d + 5) 62 [(0, .ref 290), (1, .ref P), (2, .int (nI t)), (3, .int (nI inp)), (4, .int (nI ty)), (5, .int (nI kd))] [] S2 (fun z S' => z = none ∧ ∃ V' X', hsIv S S' V V' P y N G9 L t b k p m u e c1 X' ∧ ∃ g, kO g ∧ S'.2.2 336 = some (kB 32 g) ∧ bytL g 0 32 = sgH G9 L b k p m u e inp ty c1) := by
    intro h3
    have lT := hf (by rw [← ekd]; exact h3)
    have eH : sgH G9 L b k p m u e inp ty c1 = shaL (shaL (sgL G9 L b k p m u e inp ty c1)) := by
      unfold sgH
      rw [if_neg (by rw [← ekd]; exact h3)]
    rw [eH]
    obtain ⟨T, eT⟩ : ∃ T, T = sgL G9 L b k p m u e inp ty c1 := ⟨_, rfl⟩
    rw [← eT] at lT ⊢
    have eT2 : T = bytL G9 b 4 ++ cntL (sgN k (sgAl ty)) ++ catF (fun i => if sgAl ty = true ∧ i ≠ inp then [] else sgIn G9 L p inp kd c1 i) 0 k ++ (cntL (sgSh m inp kd) ++ catF (sgOut G9 L u inp kd) 0 (sgSh m inp kd) ++ bytL G9 (e - 4) 4 ++ numL (lN ty) 4) := by
      rw [eT]
      unfold sgL
      rw [catL_F, catL_F, ← ekd]
      simp only [List.append_assoc]
      congr 2
      congr 1
      cases hal : sgAl ty with
      | true =>
        show catF (sgIn G9 L p inp kd c1) inp 1 = _
        rw [catF_c (g := fun j => if j = inp then sgIn G9 L p inp kd c1 j else []) (f := fun i => if true = true ∧ i ≠ inp then [] else sgIn G9 L p inp kd c1 i) (fun j _ _ => by
          by_cases ej : j = inp
          · rw [if_pos ej, if_neg (fun h => h.2 ej)]
          · rw [if_neg ej, if_pos ⟨rfl, ej⟩]), catF_one (by omega) (by omega)]
        show sgIn G9 L p inp kd c1 inp ++ [] = _
        rw [List.append_nil]
      | false =>
        show catF (sgIn G9 L p inp kd c1) 0 k = _
        exact catF_c (fun j _ _ => (if_neg (fun h => by cases h.1)).symm)
    have lT2 := congrArg List.length eT2
    simp only [List.length_append] at lT2
    rw [bytL_len] at lT2
    refine ks_aload_n dX16_hashed_62 rfl rfl ?_
    refine ks_iconst (x := nI 0) dX16_hashed_63 (by decide) rfl ?_
    refine ks_putf (T := TX16) (kf := 91) kx_2459 rfl in_X16 tyX16_ok nmX16 cl_X16 (by decide) o2 (Nat.le_of_ble_eq_true rfl) rfl rfl rfl rfl dX16_hashed_64 rfl ?_
    refine md_put mdp_91 ?_
    have u3 : ks_up S2 (ks_set S2 290 (rfE (va_up V1 91 (.int (nI 0))))) [290] := ks_up_set _ _ (by decide)
    obtain ⟨S3, eS3⟩ : ∃ S3, S3 = ks_set S2 290 (rfE (va_up V1 91 (.int (nI 0)))) := ⟨_, rfl⟩
    have o3' : (ks_set S2 290 (rfE (va_up V1 91 (.int (nI 0))))).2.2 290 = some (rfE (va_up V1 91 (.int (nI 0)))) := ks_set_same _ _ _
    rw [← eS3] at u3 o3' ⊢
    have I3 : hsIv S S3 V (va_up V1 91 (.int (nI 0))) P y N G9 L t b k p m u e c1 [] := by
      obtain ⟨q1, q2, q3, ⟨q4, q5, q6, q7⟩, ⟨q8, q9, qa⟩, ⟨qb, qg, qc, qd, qe, qf⟩⟩ := id I2
      exact ⟨⟨q1.1.trans (u3.mono (by decide)), o3', fun j a1 a2 a3 a4 a5 a6 a7 => (va_up_ne _ _ a7).trans (q1.2.2 j a1 a2 a3 a4 a5 a6 a7)⟩, q2.up u3 (fun x hx => hD x (by rw [List.mem_singleton] at hx; rw [hx]; decide)), q3.up u3 (by decide) ⟨va_up_ne _ _ (by decide), va_up_ne _ _ (by decide), va_up_ne _ _ (by decide)⟩, ⟨q4.up u3 (by decide), q5, q6, u3.at q7 (by decide)⟩, ⟨q8, q9, u3.at qa (by decide)⟩, ⟨va_up_self _ _ _, qg, u3.at qc (by decide), qd, Nat.zero_le _, rfl⟩⟩
    have y3 : y ≠ 373 := fun h => (hD 373 (by decide)).1 h.symm
    obtain ⟨hk3, pt3, ct3, ⟨mh3, gi3, ki3, i53⟩, ⟨gm3, km3, m63⟩, bu3⟩ := id I3
    obtain ⟨g3, A3, cc3, ⟨ey3, kg3⟩, ⟨hLN3, hN163, hPB3, ht123⟩, hg3, -, hP3, hA3, ⟨a03, a13⟩, ⟨a23, a33⟩, a43, a53⟩ := id pt3
    have o3 := hk3.2.1
    refine ks_aload_n dX16_hashed_67 rfl rfl ?_
    refine ks_aload_n dX16_hashed_68 rfl rfl ?_
    refine ks_getN (T := TX13) (kf := 0) kx_1813 rfl in_X13 cl_X13 (by decide) hP3 rfl dX16_hashed_69 rfl ?_
    refine ks_aload_n dX16_hashed_72 rfl rfl ?_
    refine ks_getN (T := TX13) (kf := 2) kx_1816 rfl in_X13 cl_X13 (by decide) hP3 rfl dX16_hashed_73 rfl ?_
    refine ks_iload_n dX16_hashed_76 rfl rfl ?_
    refine ks_ialdN (i := t) (show S3.2.2 (P + 1) = some (kN 12 (A3 0)) from hA3 0 (by decide)) rfl (by omega) (by decide) dX16_hashed_77 rfl ?_
    rw [a03]
    refine ks_iconst (x := nI 4) dX16_hashed_78 (by decide) rfl ?_
    refine ks_callV (n := 3) (M' := mX16_lay_) (c_md_layB (d := d + 4) o3 bu3 (y := y) (s := b) (n := 4) ey3 kg3 (by omega) (by omega) y3 (by show 0 + 4 ≤ _; decide)) o3 cl_X16 rfl kx_2264 kx_2266 kxp_109 kx_30 kx_2267 (by decide +kernel) rfl (by decide) (Nat.le_of_ble_eq_true rfl) rfl dX16_hashed_79 rfl (fun z4 S4 y4 => ?_)
    obtain ⟨rfl, V4, K4, B4⟩ := y4
    rw [List.nil_append, bytL_congr (g := G9) (i2 := b) (fun j hj => hg3 _ (by omega))] at B4
    have I4 := I3.bu hD K4 B4
    obtain ⟨hk4, pt4, ct4, ⟨mh4, gi4, ki4, i54⟩, ⟨gm4, km4, m64⟩, bu4⟩ := id I4
    obtain ⟨g4, A4, cc4, ⟨ey4, kg4⟩, ⟨hLN4, hN164, hPB4, ht124⟩, hg4, -, hP4, hA4, ⟨a04, a14⟩, ⟨a24, a34⟩, a44, a54⟩ := id pt4
    have o4 := hk4.2.1
    refine ks_iload dX16_hashed_82 rfl rfl ?_
    refine ks_sipush (x := nI 128) dX16_hashed_84 (by decide) rfl ?_
    refine ks_iand dX16_hashed_87 rfl ?_
    refine ks_if_eq (tgt := 95) dX16_hashed_88 (by decide) rfl (fun h5 => ?_) (fun h5 => ?_)
    · have hal : sgAl ty = false := decide_eq_false (by have := sg_bit ty hty; have h6 := this.mp h5; omega)
      rw [hal] at eT2 lT2
      have lcn := cntL_len k
      refine ks_iconst (x := nI 0) dX16_hashed_95 (by decide) rfl ?_
      refine ks_istore dX16_hashed_96 (by decide) rfl ?_
      refine ks_sub [(6, _), (0, _), (1, _), (2, _), (3, _), (4, _), (5, _)] rfl ?_
      refine ks_aload_n dX16_hashed_98 rfl rfl ?_
      refine ks_iload dX16_hashed_99 rfl rfl ?_
      refine ks_if_eqN (tgt := 108) (by decide) dX16_hashed_101 (by decide) rfl (fun h6 => ?_) (fun h6 => ?_)
      · refine ks_aload_n dX16_hashed_108 rfl rfl ?_
        refine ks_getN (T := TX13) (kf := 4) kx_1820 rfl in_X13 cl_X13 (by decide) hP4 rfl dX16_hashed_109 rfl ?_
        refine ks_iload_n dX16_hashed_112 rfl rfl ?_
        refine ks_ialdN (i := t) (show S4.2.2 (P + 3) = some (kN 12 (A4 2)) from hA4 2 (by decide)) rfl (by omega) (by decide) dX16_hashed_113 rfl ?_
        rw [a24]
        refine ks_i2lN (by omega) dX16_hashed_114 rfl ?_
        refine ks_callV (n := 1) (M' := mX16_layCount) (c_md_layCount (d := d + 3) o4 bu4 (n := k) (by omega) (by rw [bytL_len]; decide)) o4 cl_X16 rfl kx_2268 kx_2270 kxp_110 kx_30 kx_2271 (by decide +kernel) rfl (by decide) (Nat.le_of_ble_eq_true rfl) rfl dX16_hashed_115 rfl (fun z7 S7 y7 => ?_)
        obtain ⟨rfl, V7, K7, B7⟩ := y7
        have I7 := I4.bu hD K7 B7
        refine ks_iconst (x := nI 0) dX16_hashed_118 (by decide) rfl ?_
        refine ks_istore dX16_hashed_119 (by decide) rfl ?_
        refine ks_sub [(7, _), (0, _), (1, _), (2, _), (3, _), (4, _), (5, _), (6, _)] rfl ?_
        exact ks_sub [(0, _), (1, _), (2, _), (3, _), (4, _), (5, _), (6, _), (7, _)] rfl (l_hsInv (d := d + 1) hD hg9 hi hty ekd htx lT (al := false) (fun h => by omega) hc17 k 0 S7 V7 _ (by omega) I7 eT2.symm)
      · exact absurd h6 (by decide)
    · have hal : sgAl ty = true := decide_eq_true (by have := sg_bit ty hty; have h6 := mt this.mpr h5; omega)
      rw [hal] at eT2 lT2
      have lcn := cntL_len 1
      refine ks_iconst (x := nI 1) dX16_hashed_91 (by decide) rfl ?_
      refine ks_goto (tgt := 96) dX16_hashed_92 (by decide) ?_
      refine ks_istore dX16_hashed_96 (by decide) rfl ?_
      refine ks_sub [(6, _), (0, _), (1, _), (2, _), (3, _), (4, _), (5, _)] rfl ?_
      refine ks_aload_n dX16_hashed_98 rfl rfl ?_
      refine ks_iload dX16_hashed_99 rfl rfl ?_
      refine ks_if_eqN (tgt := 108) (by decide) dX16_hashed_101 (by decide) rfl (fun h6 => ?_) (fun h6 => ?_)
      · exact absurd h6 (by decide)
      · refine ks_lconst (x := lN 1) dX16_hashed_104 (by decide) rfl ?_
        refine ks_goto (tgt := 115) dX16_hashed_105 (by decide) ?_
        refine ks_callV (n := 1) (M' := mX16_layCount) (c_md_layCount (d := d + 3) o4 bu4 (n := 1) (by omega) (by rw [bytL_len]; decide)) o4 cl_X16 rfl kx_2268 kx_2270 kxp_110 kx_30 kx_2271 (by decide +kernel) rfl (by decide) (Nat.le_of_ble_eq_true rfl) rfl dX16_hashed_115 rfl (fun z7 S7 y7 => ?_)
        obtain ⟨rfl, V7, K7, B7⟩ := y7
        have I7 := I4.bu hD K7 B7
        refine ks_iconst (x := nI 0) dX16_hashed_118 (by decide) rfl ?_
        refine ks_istore dX16_hashed_119 (by decide) rfl ?_
        refine ks_sub [(7, _), (0, _), (1, _), (2, _), (3, _), (4, _), (5, _), (6, _)] rfl ?_
        exact ks_sub [(0, _), (1, _), (2, _), (3, _), (4, _), (5, _), (6, _), (7, _)] rfl (l_hsInv (d := d + 1) hD hg9 hi hty ekd htx lT (al := true) (fun h => by omega) hc17 k 0 S7 V7 _ (by omega) I7 eT2.symm)
  refine ks_iload dX16_hashed_45 rfl rfl ?_
  refine ks_iconst (x := nI 3) dX16_hashed_47 (by decide) rfl ?_
  refine ks_icmp_neN (tgt := 62) (by omega) (by decide) dX16_hashed_48 (by decide) rfl (fun h1 => ?_) (fun h1 => ?_)
  · exact go_ (fun h => h1 h.1)
  · refine ks_iload_n dX16_hashed_51 rfl rfl ?_
    refine ks_aload_n dX16_hashed_52 rfl rfl ?_
    refine ks_getN (T := TX13) (kf := 5) kx_1822 rfl in_X13 cl_X13 (by decide) hP2 rfl dX16_hashed_53 rfl ?_
    refine ks_iload_n dX16_hashed_56 rfl rfl ?_
    refine ks_ialdN (i := t) (show S2.2.2 (P + 4) = some (kN 12 (A2 3)) from hA2 3 (by decide)) rfl (by omega) (by decide) dX16_hashed_57 rfl ?_
    rw [a32]
    refine ks_icmp_ltN (tgt := 62) (by omega) (by omega) dX16_hashed_58 (by decide) rfl (fun h2 => ?_) (fun h2 => ?_)
    · exact go_ (fun h => by omega)
    · refine ks_ret rfl dX16_hashed_61 ?_
      exact ⟨rfl, V1, X0, I2, gm, kmm, e2, by unfold sgH; rw [if_pos ⟨by omega, by omega⟩]; exact msg_one hm2⟩
