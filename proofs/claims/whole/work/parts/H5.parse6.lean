/-! THE REFERENCE: parse, whole -/
set_option maxRecDepth 100000 in
set_option maxHeartbeats 1600000 in
theorem c_md_parse {l : Launch} {G : ks_G} {d : Nat} {S : ks_S} {V : Nat → Value} {y N n P c0 : Nat} {g gi g5 : Nat → Nat} {A : Nat → Nat → Nat} {w0 : Value} (kg : kO g) (hnN : n ≤ N) (hN : N < 2 ^ 16) (hP6 : 306 ≤ P) (hPB : P + 9 < ks_B) (hy : S.2.2 y = some (kB N g)) (hy9 : 306 ≤ y ∧ (y < P ∨ P + 7 < y)) (hO : S.2.2 290 = some (rfE V)) (hP : S.2.2 P = some (.inr (16, [w0, .int (nI c0), .ref (P + 1), .ref (P + 2), .ref (P + 3), .ref (P + 4), .ref (P + 5), .ref (P + 6), .ref (P + 7)]))) (hA : ∀ r, r < 6 → S.2.2 (P + 1 + r) = some (kN 12 (A r))) (hI : S.2.2 (P + 7) = some (kB 384 gi)) (kI9 : kO gi) (hM : mhR S) (h305 : S.2.2 305 = some (kB 32 g5)) (k5 : kO g5) : ks_P l G yX16_parse mX16_parse (d + 4) [.ref 290, .ref y, .int (nI n), .ref P] S (fun z S' => z = some (.int (ks_bo (blk_ g n))) ∧ prE S S' V P y n g) := by
  refine ks_of (by decide) rfl rfl (Nat.le_of_ble_eq_true rfl) ?_
  show ks_X l G mX16_parse (d + 4) 0 [(0, .ref 290), (1, .ref y), (2, .int (nI n)), (3, .ref P)] [] S _
  refine ks_aload_n dX16_parse_0 rfl rfl ?_
  refine ks_aload_n dX16_parse_1 rfl rfl ?_
  refine ks_putf (T := TX16) (kf := 38) kx_2406 rfl in_X16 tyX16_ok nmX16 cl_X16 (by decide) hO (Nat.le_of_ble_eq_true rfl) rfl rfl rfl rfl dX16_parse_2 rfl ?_
  refine md_put mdp_38 ?_
  refine ks_aload_n dX16_parse_5 rfl rfl ?_
  refine ks_iload_n dX16_parse_6 rfl rfl ?_
  refine ks_putf (T := TX16) (kf := 37) kx_2405 rfl in_X16 tyX16_ok nmX16 cl_X16 (by decide) (ks_set_same _ _ _) (Nat.le_of_ble_eq_true rfl) rfl rfl rfl rfl dX16_parse_7 rfl ?_
  refine md_put mdp_37 ?_
  refine ks_aload_n dX16_parse_10 rfl rfl ?_
  refine ks_iconst (x := nI 0) dX16_parse_11 (by decide) rfl ?_
  refine ks_putf (T := TX16) (kf := 36) kx_2404 rfl in_X16 tyX16_ok nmX16 cl_X16 (by decide) (ks_set_same _ _ _) (Nat.le_of_ble_eq_true rfl) rfl rfl rfl rfl dX16_parse_12 rfl ?_
  refine md_put mdp_36 ?_
  refine ks_aload_n dX16_parse_15 rfl rfl ?_
  refine ks_iconst (x := nI 0) dX16_parse_16 (by decide) rfl ?_
  refine ks_putf (T := TX16) (kf := 39) kx_2407 rfl in_X16 tyX16_ok nmX16 cl_X16 (by decide) (ks_set_same _ _ _) (Nat.le_of_ble_eq_true rfl) rfl rfl rfl rfl dX16_parse_17 rfl ?_
  refine md_put mdp_39 ?_
  refine ks_aload_n dX16_parse_20 rfl rfl ?_
  refine ks_aload_n dX16_parse_21 rfl rfl ?_
  refine ks_putN (T := TX13) (kf := 0) kx_1813 rfl in_X13 tyX13_ok nmX13 cl_X13 (by decide) ((ks_set_ne _ _ (by omega)).trans ((ks_set_ne _ _ (by omega)).trans ((ks_set_ne _ _ (by omega)).trans ((ks_set_ne _ _ (by omega)).trans hP)))) (Nat.le_of_ble_eq_true rfl) rfl rfl rfl rfl dX16_parse_22 rfl ?_
  obtain ⟨V1, eV⟩ : ∃ V1, V1 = (va_up (va_up (va_up (va_up V 38 (.ref y)) 37 (.int (nI n))) 36 (.int (nI 0))) 39 (.int (nI 0))) := ⟨_, rfl⟩
  obtain ⟨T0, eT⟩ : ∃ T, T = ks_set (ks_set (ks_set (ks_set (ks_set S 290 (rfE (va_up V 38 (.ref y)))) 290 (rfE (va_up (va_up V 38 (.ref y)) 37 (.int (nI n))))) 290 (rfE (va_up (va_up (va_up V 38 (.ref y)) 37 (.int (nI n))) 36 (.int (nI 0))))) 290 (rfE (va_up (va_up (va_up (va_up V 38 (.ref y)) 37 (.int (nI n))) 36 (.int (nI 0))) 39 (.int (nI 0))))) P (prO P y c0) := ⟨_, rfl⟩
  refine ks_tS (S' := T0) eT.symm ?_
  have u0 : ks_up S T0 [290, P] := by
    rw [eT]
    exact ((((ks_up_set _ _ (by simp)).trans (ks_up_set _ _ (by simp))).trans (ks_up_set _ _ (by simp))).trans (ks_up_set _ _ (by simp))).trans (ks_up_set _ _ (by simp))
  have n0 : ∀ x, x ≠ 290 → x ≠ P → x ∉ [290, P] := fun x h1 h2 h3 => by simp only [List.mem_cons, List.not_mem_nil, or_false] at h3; omega
  have O0 : psO T0 V1 y n 0 false := by
    rw [eT, eV]
    exact ⟨(ks_set_ne _ _ (by omega)).trans (ks_set_same _ _ _), rfl, rfl, rfl, rfl, Nat.zero_le _⟩
  have X0 : prX T0 P y c0 A gi := ⟨by rw [eT]; exact ks_set_same _ _ _, fun r hr => u0.at (hA r hr) (n0 _ (by omega) (by omega)), u0.at hI (n0 _ (by omega) (by omega)), kI9⟩
  have M0 : mhR T0 := hM.up u0 (fun x hx => by simp only [List.mem_cons, List.not_mem_nil, or_false] at hx; omega)
  have i0 := u0.at h305 (n0 _ (by omega) (by omega))
  have y0 := u0.at hy (n0 _ (by omega) (by omega))
  have U0 : ks_up S T0 (LPr P) := u0.mono (fun x hx => LPr_in (by simp only [List.mem_cons, List.not_mem_nil, or_false] at hx; omega))
  have hV0 : ∀ k, k < 36 ∨ 39 < k → V1 k = V k := fun k hk => by
    rw [eV, va_up_ne _ _ (by omega), va_up_ne _ _ (by omega), va_up_ne _ _ (by omega), va_up_ne _ _ (by omega)]
  have q1 : ∀ x ∈ ([290] : List Nat), x < P ∨ P + 7 < x := fun x hx => by rw [List.mem_singleton] at hx; omega
  have out : ∀ {T2 V2 r br}, psK T0 T2 V1 V2 → psO T2 V2 y n r br → blk_ g n = false → prE S T2 V P y n g := fun K O hb => by
    obtain ⟨b1, ⟨V', b2, b3⟩, b4, b5, A', gi', b6⟩ := prF.of hP6 U0 (fun _ _ _ => rfl) M0 i0 k5 X0 K O
    exact ⟨b1, ⟨V', b2, fun k hk => (b3 k (by omega) (by omega)).trans (hV0 k hk)⟩, b4, b5, c0, A', gi', b6, fun h => absurd (hb ▸ h) (by decide)⟩
  refine ks_aload_n dX16_parse_25 rfl rfl ?_
  refine ks_ldc2 dX16_parse_26 kx_2093 rfl ?_
  refine ks_tl (y := lN 80) rfl ?_
  by_cases h8 : 0 + 80 ≤ n
  · refine ks_callV (n := 1) (M' := mX16_skip) (c_ps_skipN (d := d + 3) (m := 80) O0 (by omega) h8) O0.1 cl_X16 rfl kx_2094 kx_2096 kxp_73 kx_30 kx_2097 (by decide +kernel) rfl (by decide) (Nat.le_of_ble_eq_true rfl) rfl dX16_parse_29 rfl (fun z1 T1 y1 => ?_)
    obtain ⟨rfl, V2, K1, O1⟩ := y1
    have y1' := K1.1.at y0 (by rw [List.mem_singleton]; omega)
    refine ks_aload_n dX16_parse_32 rfl rfl ?_
    refine ks_getf (T := TX16) (kf := 39) kx_2407 rfl in_X16 cl_X16 (by decide) O1.1 rfl dX16_parse_33 rfl ?_
    refine ks_tv O1.2.2.2.2.1 ?_
    refine ks_if_eqZ (tgt := 43) dX16_parse_36 (by decide) rfl (fun _ => ?_) (fun h => absurd h (by decide))
    refine ks_aload_n dX16_parse_43 rfl rfl ?_
    refine ks_callV (n := 0) (M' := mX16_count) (c_ps_count (d := d + 2) O1 y1' kg hnN hN) O1.1 cl_X16 rfl kx_2098 kx_2100 kxp_74 kx_30 kx_2101 (by decide +kernel) rfl (by decide) (Nat.le_of_ble_eq_true rfl) rfl dX16_parse_44 rfl (fun z2 T2 y2 => ?_)
    obtain ⟨V3, q, K2, y2⟩ := y2
    rw [Nat.zero_add] at y2
    have K02 := K1.trans K2
    rcases y2 with ⟨v, v1, v2, rfl, O2, v3⟩ | ⟨x, x1, rfl, O2, x2⟩ | ⟨x, rfl, O2, x2⟩
    · refine ks_lstore dX16_parse_47 (by decide) rfl ?_
      refine ks_sub [(4, _), (0, _), (1, _), (2, _), (3, _)] rfl ?_
      refine ks_aload_n dX16_parse_49 rfl rfl ?_
      refine ks_getf (T := TX16) (kf := 39) kx_2407 rfl in_X16 cl_X16 (by decide) O2.1 rfl dX16_parse_50 rfl ?_
      refine ks_tv O2.2.2.2.2.1 ?_
      refine ks_if_neZ (tgt := 72) dX16_parse_53 (by decide) rfl (fun h => absurd h (by decide)) (fun _ => ?_)
      have hr := v3 12 (by decide)
      refine ks_lload dX16_parse_56 rfl rfl ?_
      refine ks_lconst (x := lN 0) dX16_parse_58 (by decide) rfl ?_
      refine ks_lif_ltN (tgt := 72) (by omega) (by decide) dX16_parse_59 rfl dX16_parse_60 (by decide) rfl (fun h2 => absurd h2 (by omega)) (fun h2 => ?_)
      refine ks_lload dX16_parse_63 rfl rfl ?_
      refine ks_ldc2 dX16_parse_65 kx_2107 rfl ?_
      refine ks_tl (y := lN 12) rfl ?_
      refine ks_lif_leN (tgt := 74) (by omega) (by decide) dX16_parse_68 rfl dX16_parse_69 (by decide) rfl (fun h3 => ?_) (fun h3 => ?_)
      · rw [if_pos (by omega)] at hr
        obtain ⟨f1, f2, f3, f4⟩ := rc12 hr
        have X1 := X0.up K02.1 q1
        have P1 := X1.1
        refine ks_aload_n dX16_parse_74 rfl rfl ?_
        refine ks_lload dX16_parse_75 rfl rfl ?_
        refine ks_l2iN dX16_parse_77 rfl ?_
        refine ks_putN (T := TX13) (kf := 1) kx_1814 rfl in_X13 tyX13_ok nmX13 cl_X13 (by decide) P1 (Nat.le_of_ble_eq_true rfl) rfl rfl rfl rfl dX16_parse_78 rfl ?_
        refine ks_iconst (x := nI 0) dX16_parse_81 (by decide) rfl ?_
        refine ks_istore dX16_parse_82 (by decide) rfl ?_
        refine ks_sub [(6, _), (0, _), (1, _), (2, _), (3, _), (4, _)] rfl ?_
        have M1 := M0.up K02.1 (by decide)
        have i1 := K02.1.at i0 (by decide)
        have X2 : prX (ks_set T2 P (prO P y v)) P y v A gi := ⟨ks_set_same _ _ _, fun r hr => (ks_set_ne _ _ (by omega)).trans (X1.2.1 r hr), (ks_set_ne _ _ (by omega)).trans X1.2.2.1, kI9⟩
        have U1 := (U0.trans (K02.1.mono (fun x hx => LPr_in (by rw [List.mem_singleton] at hx; omega)))).trans (ks_up_set T2 (prO P y v) (LPr_in (P := P) (x := P) (by omega)))
        refine ks_sub [(0, _), (1, _), (2, _), (3, _), (6, _)] rfl (l_pLoop kg hnN hN hP6 hPB hy hy9 (by omega) f1 f3 v 0 _ V3 q A gi g5 (Nat.zero_add _) U1 (fun k hk => (K02.2 k (by omega) (by omega)).trans (hV0 k hk)) (O2.set (by omega)) (M1.set (by omega)) ((ks_set_ne _ _ (by omega)).trans i1) k5 X2 (by rw [f4]; rfl) (fun j hj => absurd hj (Nat.not_lt_zero j)))
      · refine ks_iconst (x := nI 0) dX16_parse_72 (by decide) rfl ?_
        refine ks_zret rfl rfl dX16_parse_73 ?_
        rw [if_neg (by omega)] at hr
        have e0 := rc12n hr
        rw [e0]
        exact ⟨rfl, out K02 O2 e0⟩
    · refine ks_lstore dX16_parse_47 (by decide) rfl ?_
      refine ks_sub [(4, _), (0, _), (1, _), (2, _), (3, _)] rfl ?_
      refine ks_aload_n dX16_parse_49 rfl rfl ?_
      refine ks_getf (T := TX16) (kf := 39) kx_2407 rfl in_X16 cl_X16 (by decide) O2.1 rfl dX16_parse_50 rfl ?_
      refine ks_tv O2.2.2.2.2.1 ?_
      refine ks_if_neZ (tgt := 72) dX16_parse_53 (by decide) rfl (fun h => absurd h (by decide)) (fun _ => ?_)
      refine ks_lload dX16_parse_56 rfl rfl ?_
      refine ks_lconst (x := lN 0) dX16_parse_58 (by decide) rfl ?_
      refine ks_lif_lt (tgt := 72) dX16_parse_59 rfl dX16_parse_60 (by decide) rfl (fun h2 => ?_) (fun h2 => ?_)
      · refine ks_iconst (x := nI 0) dX16_parse_72 (by decide) rfl ?_
        refine ks_zret rfl rfl dX16_parse_73 ?_
        have e0 := rc12n (x2 12 (by decide))
        rw [e0]
        exact ⟨rfl, out K02 O2 e0⟩
      · refine ks_lload dX16_parse_63 rfl rfl ?_
        refine ks_ldc2 dX16_parse_65 kx_2107 rfl ?_
        refine ks_tl (y := lN 12) rfl ?_
        refine ks_lif_le (tgt := 74) dX16_parse_68 rfl dX16_parse_69 (by decide) rfl (fun h3 => ?_) (fun h3 => ?_)
        · exact absurd (Int64.lt_of_lt_of_le (x1.resolve_left h2) h3) (by decide)
        · refine ks_iconst (x := nI 0) dX16_parse_72 (by decide) rfl ?_
          refine ks_zret rfl rfl dX16_parse_73 ?_
          have e0 := rc12n (x2 12 (by decide))
          rw [e0]
          exact ⟨rfl, out K02 O2 e0⟩
    · refine ks_lstore dX16_parse_47 (by decide) rfl ?_
      refine ks_sub [(4, _), (0, _), (1, _), (2, _), (3, _)] rfl ?_
      refine ks_aload_n dX16_parse_49 rfl rfl ?_
      refine ks_getf (T := TX16) (kf := 39) kx_2407 rfl in_X16 cl_X16 (by decide) O2.1 rfl dX16_parse_50 rfl ?_
      refine ks_tv O2.2.2.2.2.1 ?_
      refine ks_if_neZ (tgt := 72) dX16_parse_53 (by decide) rfl (fun _ => ?_) (fun h => absurd h (by decide))
      refine ks_iconst (x := nI 0) dX16_parse_72 (by decide) rfl ?_
      refine ks_zret rfl rfl dX16_parse_73 ?_
      have e0 := rc12n (x2 12 (by decide))
      rw [e0]
      exact ⟨rfl, out K02 O2 e0⟩
  · refine ks_callV (n := 1) (M' := mX16_skip) (c_ps_skipX (d := d + 3) (x := lN 80) O0 (by omega) (Or.inr ((pk_lLT (by omega) (by decide)).mpr (by omega)))) O0.1 cl_X16 rfl kx_2094 kx_2096 kxp_73 kx_30 kx_2097 (by decide +kernel) rfl (by decide) (Nat.le_of_ble_eq_true rfl) rfl dX16_parse_29 rfl (fun z1 T1 y1 => ?_)
    obtain ⟨rfl, V2, K1, O1⟩ := y1
    have e0 : blk_ g n = false := decide_eq_false (fun h => by omega)
    refine ks_aload_n dX16_parse_32 rfl rfl ?_
    refine ks_getf (T := TX16) (kf := 39) kx_2407 rfl in_X16 cl_X16 (by decide) O1.1 rfl dX16_parse_33 rfl ?_
    refine ks_tv O1.2.2.2.2.1 ?_
    refine ks_if_eqZ (tgt := 43) dX16_parse_36 (by decide) rfl (fun h => absurd h (by decide)) (fun _ => ?_)
    refine ks_lconst (x := lN 0) dX16_parse_39 (by decide) rfl ?_
    refine ks_goto (tgt := 47) dX16_parse_40 (by decide) ?_
    refine ks_lstore dX16_parse_47 (by decide) rfl ?_
    refine ks_sub [(4, _), (0, _), (1, _), (2, _), (3, _)] rfl ?_
    refine ks_aload_n dX16_parse_49 rfl rfl ?_
    refine ks_getf (T := TX16) (kf := 39) kx_2407 rfl in_X16 cl_X16 (by decide) O1.1 rfl dX16_parse_50 rfl ?_
    refine ks_tv O1.2.2.2.2.1 ?_
    refine ks_if_neZ (tgt := 72) dX16_parse_53 (by decide) rfl (fun _ => ?_) (fun h => absurd h (by decide))
    refine ks_iconst (x := nI 0) dX16_parse_72 (by decide) rfl ?_
    refine ks_zret rfl rfl dX16_parse_73 ?_
    rw [e0]
    exact ⟨rfl, out K1 O1 e0⟩
