/-! THE REFERENCE: script, input, output -/
theorem rc_cases {g : Nat → Nat} {p L most v q : Nat} (h : rc g p L most = some (v, q)) : (g p < 253 ∧ v = g p ∧ q = p + 1 ∧ p < L) ∨ (g p = 253 ∧ v = ks_num g (p + 1) 2 ∧ q = p + 3 ∧ p + 3 ≤ L) := by
  unfold rc at h
  split at h
  · cases h
  · split at h
    · split at h
      · cases h; left; omega
      · cases h
    · split at h
      · next e => cases h; exact Or.inr ⟨e.1, rfl, rfl, e.2.1⟩
      · cases h
/-- what script leaves -/
def skK (S S' : ks_S) (V V' : Nat → Value) : Prop := ks_up S S' [290] ∧ S'.2.2 290 = some (rfE V') ∧ ∀ k, k ≠ 40 → k ≠ 41 → V' k = V k
theorem skK.trans {S S1 S2 : ks_S} {V V1 V2 : Nat → Value} (h : skK S S1 V V1) (k : skK S1 S2 V1 V2) : skK S S2 V V2 := ⟨h.1.trans k.1, k.2.1, fun j h1 h2 => (k.2.2 j h1 h2).trans (h.2.2 j h1 h2)⟩
set_option maxRecDepth 100000 in
set_option maxHeartbeats 800000 in
theorem c_md_script {l : Launch} {G : ks_G} {d : Nat} {S : ks_S} {V : Nat → Value} {y N i L most v q : Nat} {g : Nat → Nat} (hO : S.2.2 290 = some (rfE V)) (hy : S.2.2 y = some (kB N g)) (kg : kO g) (hL : L ≤ N) (hN : N < 2 ^ 16) (hr : rc g i L most = some (v, q)) : ks_P l G yX16_script mX16_script (d + 1) [.ref 290, .ref y, .int (nI i)] S (fun z S' => z = some (.int (nI (q + v))) ∧ ∃ V', skK S S' V V' ∧ V' 40 = .int (nI q) ∧ V' 41 = .int (nI v)) := by
  have y290 : y ≠ 290 := ks_neO hy hO
  have n2 := num2_lt kg (i + 1)
  have gi := kg i
  rcases rc_cases hr with ⟨r1, rfl, rfl, r2⟩ | ⟨r1, rfl, rfl, r2⟩
  · refine ks_of (by decide) rfl rfl (Nat.le_of_ble_eq_true rfl) ?_
    show ks_X l G mX16_script (d + 1) 0 [(0, .ref 290), (1, .ref y), (2, .int (nI i))] [] S _
    refine ks_aload_n dX16_script_0 rfl rfl ?_
    refine ks_iload_n dX16_script_1 rfl rfl ?_
    refine ks_baldB (i := i) hy rfl (by omega) (by omega) dX16_script_2 rfl ?_
    refine ks_sipush (x := nI 255) dX16_script_3 (by decide) rfl ?_
    refine ks_andB (kg _) dX16_script_6 rfl ?_
    have hy6 : g i < 256 := (kg _)
    refine ks_istore_n dX16_script_7 (by decide) rfl ?_
    refine ks_sub [(3, _), (0, _), (1, _), (2, _)] rfl ?_
    refine ks_iload_n dX16_script_8 rfl rfl ?_
    refine ks_sipush (x := nI 253) dX16_script_9 (by decide) rfl ?_
    refine ks_icmp_geN (tgt := 19) (by omega) (by decide) dX16_script_12 (by decide) rfl (fun h1 => absurd h1 (by omega)) (fun h1 => ?_)
    refine ks_iconst (x := nI 0) dX16_script_15 (by decide) rfl ?_
    refine ks_goto (tgt := 43) dX16_script_16 (by decide) ?_
    refine ks_istore dX16_script_43 (by decide) rfl ?_
    refine ks_sub [(4, _), (0, _), (1, _), (2, _), (3, _)] rfl ?_
    refine ks_aload_n dX16_script_45 rfl rfl ?_
    refine ks_iload dX16_script_46 rfl rfl ?_
    refine ks_if_neN (tgt := 55) (by decide) dX16_script_48 (by decide) rfl (fun h => absurd h (by decide)) (fun _ => ?_)
    refine ks_iload_n dX16_script_51 rfl rfl ?_
    refine ks_goto (tgt := 66) dX16_script_52 (by decide) ?_
    refine ks_putf (T := TX16) (kf := 41) kx_2409 rfl in_X16 tyX16_ok nmX16 cl_X16 (by decide) hO (Nat.le_of_ble_eq_true rfl) rfl rfl rfl rfl dX16_script_66 rfl ?_
    refine md_put mdp_41 ?_
    refine ks_aload_n dX16_script_69 rfl rfl ?_
    refine ks_iload_n dX16_script_70 rfl rfl ?_
    refine ks_iconst (x := nI 1) dX16_script_71 (by decide) rfl ?_
    refine ks_addN dX16_script_72 rfl ?_
    refine ks_iload dX16_script_73 rfl rfl ?_
    refine ks_addN dX16_script_75 rfl ?_
    refine ks_putf (T := TX16) (kf := 40) kx_2408 rfl in_X16 tyX16_ok nmX16 cl_X16 (by decide) (ks_set_same _ _ _) (Nat.le_of_ble_eq_true rfl) rfl rfl rfl rfl dX16_script_76 rfl ?_
    refine md_put mdp_40 ?_
    refine ks_aload_n dX16_script_79 rfl rfl ?_
    refine ks_getf (T := TX16) (kf := 40) kx_2408 rfl in_X16 cl_X16 (by decide) (ks_set_same _ _ _) rfl dX16_script_80 rfl ?_
    refine ks_tv (va_up_self _ _ _) ?_
    refine ks_aload_n dX16_script_83 rfl rfl ?_
    refine ks_getf (T := TX16) (kf := 41) kx_2409 rfl in_X16 cl_X16 (by decide) (ks_set_same _ _ _) rfl dX16_script_84 rfl ?_
    refine ks_tv ((va_up_ne _ _ (by decide)).trans (va_up_self _ _ _)) ?_
    refine ks_addN dX16_script_87 rfl ?_
    refine ks_iret rfl dX16_script_88 ?_
    refine ⟨rfl, _, ⟨(ks_up_set _ _ (List.mem_singleton.mpr rfl)).trans (ks_up_set _ _ (List.mem_singleton.mpr rfl)), ks_set_same _ _ _, fun k h1 h2 => (va_up_ne _ _ h1).trans (va_up_ne _ _ h2)⟩, va_up_self _ _ _, (va_up_ne _ _ (by decide)).trans (va_up_self _ _ _)⟩
  · refine ks_of (by decide) rfl rfl (Nat.le_of_ble_eq_true rfl) ?_
    show ks_X l G mX16_script (d + 1) 0 [(0, .ref 290), (1, .ref y), (2, .int (nI i))] [] S _
    refine ks_aload_n dX16_script_0 rfl rfl ?_
    refine ks_iload_n dX16_script_1 rfl rfl ?_
    refine ks_baldB (i := i) hy rfl (by omega) (by omega) dX16_script_2 rfl ?_
    refine ks_sipush (x := nI 255) dX16_script_3 (by decide) rfl ?_
    refine ks_andB (kg _) dX16_script_6 rfl ?_
    have hy6 : g i < 256 := (kg _)
    refine ks_istore_n dX16_script_7 (by decide) rfl ?_
    refine ks_sub [(3, _), (0, _), (1, _), (2, _)] rfl ?_
    refine ks_iload_n dX16_script_8 rfl rfl ?_
    refine ks_sipush (x := nI 253) dX16_script_9 (by decide) rfl ?_
    refine ks_icmp_geN (tgt := 19) (by omega) (by decide) dX16_script_12 (by decide) rfl (fun h1 => ?_) (fun h1 => absurd h1 (by omega))
    refine ks_iload_n dX16_script_19 rfl rfl ?_
    refine ks_sipush (x := nI 253) dX16_script_20 (by decide) rfl ?_
    refine ks_icmp_neN (tgt := 30) (by omega) (by decide) dX16_script_23 (by decide) rfl (fun h2 => absurd h2 (by omega)) (fun h2 => ?_)
    refine ks_iconst (x := nI 2) dX16_script_26 (by decide) rfl ?_
    refine ks_goto (tgt := 43) dX16_script_27 (by decide) ?_
    refine ks_istore dX16_script_43 (by decide) rfl ?_
    refine ks_sub [(4, _), (0, _), (1, _), (2, _), (3, _)] rfl ?_
    refine ks_aload_n dX16_script_45 rfl rfl ?_
    refine ks_iload dX16_script_46 rfl rfl ?_
    refine ks_if_neN (tgt := 55) (by decide) dX16_script_48 (by decide) rfl (fun _ => ?_) (fun h => absurd h (by decide))
    refine ks_aload_n dX16_script_55 rfl rfl ?_
    refine ks_aload_n dX16_script_56 rfl rfl ?_
    refine ks_iload_n dX16_script_57 rfl rfl ?_
    refine ks_iconst (x := nI 1) dX16_script_58 (by decide) rfl ?_
    refine ks_addN dX16_script_59 rfl ?_
    refine ks_iload dX16_script_60 rfl rfl ?_
    refine ks_callV (n := 3) (M' := mX16_number) (c_md_number (d := d) (n := 2) hy kg (by omega) (by decide) (by omega)) hO cl_X16 rfl kx_2020 kx_2022 kxp_68 kx_30 kx_2023 (by decide +kernel) rfl (by decide) (Nat.le_of_ble_eq_true rfl) rfl dX16_script_62 rfl (fun z1 T1 y1 => ?_)
    obtain ⟨rfl, hT1⟩ := y1
    obtain rfl := hT1.symm
    refine ks_l2iN dX16_script_65 rfl ?_
    refine ks_putf (T := TX16) (kf := 41) kx_2409 rfl in_X16 tyX16_ok nmX16 cl_X16 (by decide) hO (Nat.le_of_ble_eq_true rfl) rfl rfl rfl rfl dX16_script_66 rfl ?_
    refine md_put mdp_41 ?_
    refine ks_aload_n dX16_script_69 rfl rfl ?_
    refine ks_iload_n dX16_script_70 rfl rfl ?_
    refine ks_iconst (x := nI 1) dX16_script_71 (by decide) rfl ?_
    refine ks_addN dX16_script_72 rfl ?_
    refine ks_iload dX16_script_73 rfl rfl ?_
    refine ks_addN dX16_script_75 rfl ?_
    refine ks_putf (T := TX16) (kf := 40) kx_2408 rfl in_X16 tyX16_ok nmX16 cl_X16 (by decide) (ks_set_same _ _ _) (Nat.le_of_ble_eq_true rfl) rfl rfl rfl rfl dX16_script_76 rfl ?_
    refine md_put mdp_40 ?_
    refine ks_aload_n dX16_script_79 rfl rfl ?_
    refine ks_getf (T := TX16) (kf := 40) kx_2408 rfl in_X16 cl_X16 (by decide) (ks_set_same _ _ _) rfl dX16_script_80 rfl ?_
    refine ks_tv (va_up_self _ _ _) ?_
    refine ks_aload_n dX16_script_83 rfl rfl ?_
    refine ks_getf (T := TX16) (kf := 41) kx_2409 rfl in_X16 cl_X16 (by decide) (ks_set_same _ _ _) rfl dX16_script_84 rfl ?_
    refine ks_tv ((va_up_ne _ _ (by decide)).trans (va_up_self _ _ _)) ?_
    refine ks_addN dX16_script_87 rfl ?_
    refine ks_iret rfl dX16_script_88 ?_
    refine ⟨rfl, _, ⟨(ks_up_set _ _ (List.mem_singleton.mpr rfl)).trans (ks_up_set _ _ (List.mem_singleton.mpr rfl)), ks_set_same _ _ _, fun k h1 h2 => (va_up_ne _ _ h1).trans (va_up_ne _ _ h2)⟩, va_up_self _ _ _, (va_up_ne _ _ (by decide)).trans (va_up_self _ _ _)⟩
set_option maxRecDepth 100000 in
set_option maxHeartbeats 800000 in
theorem c_md_input {l : Launch} {G : ks_G} {d : Nat} {S : ks_S} {V : Nat → Value} {y N L P t i q0 a : Nat} {g fi : Nat → Nat} {w1 : Value} {r2 r3 r4 r5 r6 r7 r8 : Nat} (hO : S.2.2 290 = some (rfE V)) (hP : S.2.2 P = some (.inr (16, [.ref y, w1, .ref r2, .ref r3, .ref r4, .ref r5, .ref r6, .ref r7, .ref r8]))) (hR : S.2.2 r6 = some (kN 12 fi)) (hrB : r6 < ks_B) (ht : t < 12) (hq : fi t = q0) (hy : S.2.2 y = some (kB N g)) (kg : kO g) (hL : L ≤ N) (hN : N < 2 ^ 16) (hi9 : i < 65536) (hp : ip g L q0 i = some a) : ks_P l G yX16_input mX16_input (d + 2) [.ref 290, .ref P, .int (nI t), .int (nI i)] S (fun z S' => z = some (.int (nI a)) ∧ ∃ V', skK S S' V V') := by
  have y290 : y ≠ 290 := ks_neO hy hO
  have nP : P ≠ 290 := fun e => by subst e; rw [hP] at hO; cases hO
  have loop : ∀ (u j x : Nat) (S1 : ks_S) (V1 : Nat → Value), j + u = i → skK S S1 V V1 → ip g L q0 j = some x → ks_X l G mX16_input (d + 2) 11 [(0, .ref 290), (1, .ref P), (2, .int (nI t)), (3, .int (nI i)), (4, .int (nI x)), (5, .int (nI j))] [] S1 (fun z S' => z = some (.int (nI a)) ∧ ∃ V', skK S S' V V') := by
    intro u
    induction u with
    | zero =>
      intro j x S1 V1 hj K hx
      obtain rfl : j = i := hj
      rw [hp] at hx
      cases hx
      refine ks_iload dX16_input_11 rfl rfl ?_
      refine ks_iload_n dX16_input_13 rfl rfl ?_
      refine ks_icmp_geN (tgt := 40) (by omega) (by omega) dX16_input_14 (by decide) rfl (fun h1 => ?_) (fun h1 => absurd h1 (by omega))
      refine ks_iload dX16_input_40 rfl rfl ?_
      refine ks_iret rfl dX16_input_42 ?_
      exact ⟨rfl, V1, K⟩
    | succ u ih =>
      intro j x S1 V1 hj K hx
      have eP := K.1.at hP (by rw [List.mem_singleton]; exact nP)
      have ey := K.1.at hy (by rw [List.mem_singleton]; exact y290)
      have o1 := K.2.1
      refine ks_iload dX16_input_11 rfl rfl ?_
      refine ks_iload_n dX16_input_13 rfl rfl ?_
      refine ks_icmp_geN (tgt := 40) (by omega) (by omega) dX16_input_14 (by decide) rfl (fun h1 => absurd h1 (by omega)) (fun h1 => ?_)
      refine ks_aload_n dX16_input_17 rfl rfl ?_
      refine ks_aload_n dX16_input_18 rfl rfl ?_
      refine ks_getN (T := TX13) (kf := 0) kx_1813 rfl in_X13 cl_X13 (by decide) eP rfl dX16_input_19 rfl ?_
      refine ks_iload dX16_input_22 rfl rfl ?_
      refine ks_bipush (x := nI 36) dX16_input_24 (by decide) rfl ?_
      refine ks_addN dX16_input_26 rfl ?_
      obtain ⟨v, s, hr⟩ : ∃ v s, rc g (x + 36) L L = some (v, s) := by
        cases e : rc g (x + 36) L L with
        | none => have := ip_n hx e i (by omega); rw [hp] at this; cases this
        | some r => exact ⟨r.1, r.2, rfl⟩
      have rs := rc_some hr
      refine ks_callV (n := 2) (M' := mX16_script) (c_md_script (d := d) o1 ey kg hL hN hr) o1 cl_X16 rfl kx_2126 kx_2128 kxp_79 kx_30 kx_2129 (by decide +kernel) rfl (by decide) (Nat.le_of_ble_eq_true rfl) rfl dX16_input_27 rfl (fun z2 T2 y2 => ?_)
      obtain ⟨rfl, V2, K2, -, -⟩ := y2
      refine ks_iconst (x := nI 4) dX16_input_30 (by decide) rfl ?_
      refine ks_addN dX16_input_31 rfl ?_
      refine ks_istore dX16_input_32 (by decide) rfl ?_
      refine ks_sub [(4, _), (0, _), (1, _), (2, _), (3, _), (5, _)] rfl ?_
      refine ks_incN (c := 1) (e := j + 1) dX16_input_34 rfl (by decide) rfl (by decide) rfl ?_
      refine ks_sub [(5, _), (0, _), (1, _), (2, _), (3, _), (4, _)] rfl ?_
      refine ks_goto (tgt := 11) dX16_input_37 (by decide) ?_
      exact ks_sub [(0, _), (1, _), (2, _), (3, _), (4, _), (5, _)] rfl (ih (j + 1) _ T2 V2 (by omega) (K.trans K2) (ip_s hx hr))
  refine ks_of (by decide) rfl rfl (Nat.le_of_ble_eq_true rfl) ?_
  show ks_X l G mX16_input (d + 2) 0 [(0, .ref 290), (1, .ref P), (2, .int (nI t)), (3, .int (nI i))] [] S _
  refine ks_aload_n dX16_input_0 rfl rfl ?_
  refine ks_getN (T := TX13) (kf := 6) kx_1824 rfl in_X13 cl_X13 (by decide) hP rfl dX16_input_1 rfl ?_
  refine ks_iload_n dX16_input_4 rfl rfl ?_
  refine ks_ialdN (i := t) hR rfl (by omega) (by decide) dX16_input_5 rfl ?_
  refine ks_istore dX16_input_6 (by decide) rfl ?_
  refine ks_sub [(4, _), (0, _), (1, _), (2, _), (3, _)] rfl ?_
  refine ks_iconst (x := nI 0) dX16_input_8 (by decide) rfl ?_
  refine ks_istore dX16_input_9 (by decide) rfl ?_
  refine ks_sub [(5, _), (0, _), (1, _), (2, _), (3, _), (4, _)] rfl ?_
  subst hq
  exact ks_sub [(0, _), (1, _), (2, _), (3, _), (4, _), (5, _)] rfl (loop i 0 (fi t) S V (Nat.zero_add _) ⟨ks_up.rf _ _, hO, fun _ _ _ => rfl⟩ rfl)
set_option maxRecDepth 100000 in
set_option maxHeartbeats 800000 in
theorem c_md_output {l : Launch} {G : ks_G} {d : Nat} {S : ks_S} {V : Nat → Value} {y N L P t i q0 a : Nat} {g fi : Nat → Nat} {w1 : Value} {r2 r3 r4 r5 r6 r7 r8 : Nat} (hO : S.2.2 290 = some (rfE V)) (hP : S.2.2 P = some (.inr (16, [.ref y, w1, .ref r2, .ref r3, .ref r4, .ref r5, .ref r6, .ref r7, .ref r8]))) (hR : S.2.2 r7 = some (kN 12 fi)) (hrB : r7 < ks_B) (ht : t < 12) (hq : fi t = q0) (hy : S.2.2 y = some (kB N g)) (kg : kO g) (hL : L ≤ N) (hN : N < 2 ^ 16) (hi9 : i < 65536) (hp : ot g L q0 i = some a) : ks_P l G yX16_output mX16_output (d + 2) [.ref 290, .ref P, .int (nI t), .int (nI i)] S (fun z S' => z = some (.int (nI a)) ∧ ∃ V', skK S S' V V') := by
  have y290 : y ≠ 290 := ks_neO hy hO
  have nP : P ≠ 290 := fun e => by subst e; rw [hP] at hO; cases hO
  have loop : ∀ (u j x : Nat) (S1 : ks_S) (V1 : Nat → Value), j + u = i → skK S S1 V V1 → ot g L q0 j = some x → ks_X l G mX16_output (d + 2) 11 [(0, .ref 290), (1, .ref P), (2, .int (nI t)), (3, .int (nI i)), (4, .int (nI x)), (5, .int (nI j))] [] S1 (fun z S' => z = some (.int (nI a)) ∧ ∃ V', skK S S' V V') := by
    intro u
    induction u with
    | zero =>
      intro j x S1 V1 hj K hx
      obtain rfl : j = i := hj
      rw [hp] at hx
      cases hx
      refine ks_iload dX16_output_11 rfl rfl ?_
      refine ks_iload_n dX16_output_13 rfl rfl ?_
      refine ks_icmp_geN (tgt := 38) (by omega) (by omega) dX16_output_14 (by decide) rfl (fun h1 => ?_) (fun h1 => absurd h1 (by omega))
      refine ks_iload dX16_output_38 rfl rfl ?_
      refine ks_iret rfl dX16_output_40 ?_
      exact ⟨rfl, V1, K⟩
    | succ u ih =>
      intro j x S1 V1 hj K hx
      have eP := K.1.at hP (by rw [List.mem_singleton]; exact nP)
      have ey := K.1.at hy (by rw [List.mem_singleton]; exact y290)
      have o1 := K.2.1
      refine ks_iload dX16_output_11 rfl rfl ?_
      refine ks_iload_n dX16_output_13 rfl rfl ?_
      refine ks_icmp_geN (tgt := 38) (by omega) (by omega) dX16_output_14 (by decide) rfl (fun h1 => absurd h1 (by omega)) (fun h1 => ?_)
      refine ks_aload_n dX16_output_17 rfl rfl ?_
      refine ks_aload_n dX16_output_18 rfl rfl ?_
      refine ks_getN (T := TX13) (kf := 0) kx_1813 rfl in_X13 cl_X13 (by decide) eP rfl dX16_output_19 rfl ?_
      refine ks_iload dX16_output_22 rfl rfl ?_
      refine ks_bipush (x := nI 8) dX16_output_24 (by decide) rfl ?_
      refine ks_addN dX16_output_26 rfl ?_
      obtain ⟨v, s, hr⟩ : ∃ v s, rc g (x + 8) L L = some (v, s) := by
        cases e : rc g (x + 8) L L with
        | none => have := ot_n hx e i (by omega); rw [hp] at this; cases this
        | some r => exact ⟨r.1, r.2, rfl⟩
      have rs := rc_some hr
      refine ks_callV (n := 2) (M' := mX16_script) (c_md_script (d := d) o1 ey kg hL hN hr) o1 cl_X16 rfl kx_2126 kx_2128 kxp_79 kx_30 kx_2129 (by decide +kernel) rfl (by decide) (Nat.le_of_ble_eq_true rfl) rfl dX16_output_27 rfl (fun z2 T2 y2 => ?_)
      obtain ⟨rfl, V2, K2, -, -⟩ := y2
      refine ks_istore dX16_output_30 (by decide) rfl ?_
      refine ks_sub [(4, _), (0, _), (1, _), (2, _), (3, _), (5, _)] rfl ?_
      refine ks_incN (c := 1) (e := j + 1) dX16_output_32 rfl (by decide) rfl (by decide) rfl ?_
      refine ks_sub [(5, _), (0, _), (1, _), (2, _), (3, _), (4, _)] rfl ?_
      refine ks_goto (tgt := 11) dX16_output_35 (by decide) ?_
      exact ks_sub [(0, _), (1, _), (2, _), (3, _), (4, _), (5, _)] rfl (ih (j + 1) _ T2 V2 (by omega) (K.trans K2) (ot_s hx hr))
  refine ks_of (by decide) rfl rfl (Nat.le_of_ble_eq_true rfl) ?_
  show ks_X l G mX16_output (d + 2) 0 [(0, .ref 290), (1, .ref P), (2, .int (nI t)), (3, .int (nI i))] [] S _
  refine ks_aload_n dX16_output_0 rfl rfl ?_
  refine ks_getN (T := TX13) (kf := 7) kx_1826 rfl in_X13 cl_X13 (by decide) hP rfl dX16_output_1 rfl ?_
  refine ks_iload_n dX16_output_4 rfl rfl ?_
  refine ks_ialdN (i := t) hR rfl (by omega) (by decide) dX16_output_5 rfl ?_
  refine ks_istore dX16_output_6 (by decide) rfl ?_
  refine ks_sub [(4, _), (0, _), (1, _), (2, _), (3, _)] rfl ?_
  refine ks_iconst (x := nI 0) dX16_output_8 (by decide) rfl ?_
  refine ks_istore dX16_output_9 (by decide) rfl ?_
  refine ks_sub [(5, _), (0, _), (1, _), (2, _), (3, _), (4, _)] rfl ?_
  subst hq
  exact ks_sub [(0, _), (1, _), (2, _), (3, _), (4, _), (5, _)] rfl (loop i 0 (fi t) S V (Nat.zero_add _) ⟨ks_up.rf _ _, hO, fun _ _ _ => rfl⟩ rfl)
