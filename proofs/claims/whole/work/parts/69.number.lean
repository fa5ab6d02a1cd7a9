/-! CURVE: numbers of signatures -/
def beW (g : Nat → Nat) (i n : Nat) : Nat := dg 256 (fun k => g (i + n - 1 - k)) n
theorem beW_32 (g : Nat → Nat) (i : Nat) : beW g i 32 = beN g i := rfl
def derN (g : Nat → Nat) (i c : Nat) : Bool := decide (g i = 2 ∧ 1 ≤ c ∧ g (i + 2) < 128 ∧ (c = 1 ∨ ¬ g (i + 2) = 0 ∨ 128 ≤ g (i + 3)))
/-- a byte that is not 0 makes a number large -/
theorem beW_big {g : Nat → Nat} {i c j : Nat} (hj : j < c - 32) (h : ¬ g (i + j) = 0) : ¬ beW g i c < nN := by
  have e : c = (c - 1 - j) + (j + 1) := by omega
  have h1 : dg 256 (fun k => g (i + c - 1 - k)) ((c - 1 - j) + (j + 1)) = dg 256 (fun k => g (i + c - 1 - k)) (c - 1 - j) + 256 ^ (c - 1 - j) * dg 256 (fun k => g (i + c - 1 - (c - 1 - j + k))) (j + 1) := dg_add _ _ _ _
  have h2 : 0 < dg 256 (fun k => g (i + c - 1 - (c - 1 - j + k))) (j + 1) := by
    rw [dg_c]
    have e2 : i + c - 1 - (c - 1 - j + 0) = i + j := by omega
    rw [e2]
    omega
  have h3 : 256 ^ 32 ≤ 256 ^ (c - 1 - j) := Nat.pow_le_pow_right (by decide) (by omega)
  have h4 : 256 ^ (c - 1 - j) * 1 ≤ 256 ^ (c - 1 - j) * dg 256 (fun k => g (i + c - 1 - (c - 1 - j + k))) (j + 1) := Nat.mul_le_mul_left _ h2
  have h5 : beW g i c = dg 256 (fun k => g (i + c - 1 - k)) (c - 1 - j) + 256 ^ (c - 1 - j) * dg 256 (fun k => g (i + c - 1 - (c - 1 - j + k))) (j + 1) := by
    unfold beW
    rw [← h1, ← e]
  rw [h5]
  have h6 : nN < 256 ^ 32 := by decide
  omega
/-- zeros in front count nothing -/
theorem beW_zeros {g : Nat → Nat} {i c : Nat} (h : ∀ j, j < c - 32 → g (i + j) = 0) : beW g i c = dg 256 (fun k => g (i + c - 1 - k)) (c - (c - 32)) := by
  unfold beW
  have e : c = (c - (c - 32)) + (c - 32) := by omega
  have h1 : dg 256 (fun k => g (i + c - 1 - k)) ((c - (c - 32)) + (c - 32)) = dg 256 (fun k => g (i + c - 1 - k)) (c - (c - 32)) + 256 ^ (c - (c - 32)) * dg 256 (fun k => g (i + c - 1 - (c - (c - 32) + k))) (c - 32) := dg_add _ _ _ _
  rw [← e] at h1
  rw [h1, dg_0 (n := c - 32), Nat.mul_zero, Nat.add_zero]
  intro k hk
  have e2 : i + c - 1 - (c - (c - 32) + k) = i + (c - 32 - 1 - k) := by omega
  show g (i + c - 1 - (c - (c - 32) + k)) = 0
  rw [e2]
  exact h _ (by omega)
theorem beN_tk {g rw_ : Nat → Nat} {i c : Nat} : beN (va_cpy g (ks_fill rw_ 0 32 0) (i + (c - 32)) (32 - (c - (c - 32))) (c - (c - 32))) 0 = dg 256 (fun k => g (i + c - 1 - k)) (c - (c - 32)) := by
  unfold beN
  have h1 : dg 256 (fun k => va_cpy g (ks_fill rw_ 0 32 0) (i + (c - 32)) (32 - (c - (c - 32))) (c - (c - 32)) (0 + 31 - k)) ((c - (c - 32)) + (32 - (c - (c - 32)))) = _ := dg_add _ _ _ _
  rw [show (c - (c - 32)) + (32 - (c - (c - 32))) = 32 by omega] at h1
  rw [h1, dg_0 (n := 32 - (c - (c - 32))), Nat.mul_zero, Nat.add_zero]
  · apply dg_congr
    intro k hk
    show (if _ then _ else _) = _
    rw [if_pos ⟨by omega, by omega⟩]
    congr 1
    omega
  · intro k hk
    show (if _ then _ else _) = _
    rw [if_neg (by omega)]
    unfold ks_fill
    rw [if_pos (by omega)]
set_option maxRecDepth 100000 in
set_option maxHeartbeats 800000 in
theorem c_cv_isDer {l : Launch} {G : ks_G} {d : Nat} {S : ks_S} {y N i c : Nat} {g : Nat → Nat} (hy : S.2.2 y = some (kB N g)) (hg : kO g) (hN : N < 2 ^ 20) (hi : i + 2 + c ≤ N) (hi2 : i < N) : ks_P l G yX3_isDerNumber mX3_isDerNumber d [.ref y, .int (nI i), .int (nI c)] S (fun z S' => z = some (.int (ks_bo (derN g i c))) ∧ S' = S) := by
  refine ks_of (by decide) rfl rfl (Nat.le_of_ble_eq_true rfl) ?_
  show ks_X l G mX3_isDerNumber d 0 [(0, .ref y), (1, .int (nI i)), (2, .int (nI c))] [] S _
  refine ks_aload_n dX3_isDerNumber_0 rfl rfl ?_
  refine ks_iload_n dX3_isDerNumber_1 rfl rfl ?_
  refine ks_baldB (i := i) hy rfl (by omega) (by omega) dX3_isDerNumber_2 rfl ?_
  refine ks_iconst (x := nI 2) dX3_isDerNumber_3 (by decide) rfl ?_
  refine ks_icmp_neYN (tgt := 20) (hg _) (by decide) dX3_isDerNumber_4 (by decide) rfl (fun hc4 => ?_) (fun hc4 => ?_)
  · refine ks_iconst (x := nI 0) dX3_isDerNumber_20 (by decide) rfl ?_
    refine ks_zret rfl rfl dX3_isDerNumber_21 ?_
    refine ⟨?_, rfl⟩
    unfold derN
    rw [decide_eq_false (by omega)]
    rfl
  · refine ks_iload_n dX3_isDerNumber_7 rfl rfl ?_
    refine ks_iconst (x := nI 1) dX3_isDerNumber_8 (by decide) rfl ?_
    refine ks_icmp_ltN (tgt := 20) (by omega) (by decide) dX3_isDerNumber_9 (by decide) rfl (fun hc9 => ?_) (fun hc9 => ?_)
    · refine ks_iconst (x := nI 0) dX3_isDerNumber_20 (by decide) rfl ?_
      refine ks_zret rfl rfl dX3_isDerNumber_21 ?_
      refine ⟨?_, rfl⟩
      unfold derN
      rw [decide_eq_false (by omega)]
      rfl
    · refine ks_aload_n dX3_isDerNumber_12 rfl rfl ?_
      refine ks_iload_n dX3_isDerNumber_13 rfl rfl ?_
      refine ks_iconst (x := nI 2) dX3_isDerNumber_14 (by decide) rfl ?_
      refine ks_addN dX3_isDerNumber_15 rfl ?_
      refine ks_baldB (i := i + 2) hy rfl (by omega) (by omega) dX3_isDerNumber_16 rfl ?_
      refine ks_if_geY (tgt := 22) (hg _) dX3_isDerNumber_17 (by decide) rfl (fun hc17 => ?_) (fun hc17 => ?_)
      · refine ks_iload_n dX3_isDerNumber_22 rfl rfl ?_
        refine ks_iconst (x := nI 1) dX3_isDerNumber_23 (by decide) rfl ?_
        refine ks_icmp_eqN (tgt := 43) (by omega) (by decide) dX3_isDerNumber_24 (by decide) rfl (fun hc24 => ?_) (fun hc24 => ?_)
        · refine ks_iconst (x := nI 1) dX3_isDerNumber_43 (by decide) rfl ?_
          refine ks_goto (tgt := 48) dX3_isDerNumber_44 (by decide) ?_
          refine ks_zret rfl rfl dX3_isDerNumber_48 ?_
          refine ⟨?_, rfl⟩
          unfold derN
          rw [decide_eq_true (by omega)]
          rfl
        · refine ks_aload_n dX3_isDerNumber_27 rfl rfl ?_
          refine ks_iload_n dX3_isDerNumber_28 rfl rfl ?_
          refine ks_iconst (x := nI 2) dX3_isDerNumber_29 (by decide) rfl ?_
          refine ks_addN dX3_isDerNumber_30 rfl ?_
          refine ks_baldB (i := i + 2) hy rfl (by omega) (by omega) dX3_isDerNumber_31 rfl ?_
          refine ks_if_neY (tgt := 43) (hg _) dX3_isDerNumber_32 (by decide) rfl (fun hc32 => ?_) (fun hc32 => ?_)
          · refine ks_iconst (x := nI 1) dX3_isDerNumber_43 (by decide) rfl ?_
            refine ks_goto (tgt := 48) dX3_isDerNumber_44 (by decide) ?_
            refine ks_zret rfl rfl dX3_isDerNumber_48 ?_
            refine ⟨?_, rfl⟩
            unfold derN
            rw [decide_eq_true (by omega)]
            rfl
          · refine ks_aload_n dX3_isDerNumber_35 rfl rfl ?_
            refine ks_iload_n dX3_isDerNumber_36 rfl rfl ?_
            refine ks_iconst (x := nI 3) dX3_isDerNumber_37 (by decide) rfl ?_
            refine ks_addN dX3_isDerNumber_38 rfl ?_
            refine ks_baldB (i := i + 3) hy rfl (by omega) (by omega) dX3_isDerNumber_39 rfl ?_
            refine ks_if_geY (tgt := 47) (hg _) dX3_isDerNumber_40 (by decide) rfl (fun hc40 => ?_) (fun hc40 => ?_)
            · refine ks_iconst (x := nI 0) dX3_isDerNumber_47 (by decide) rfl ?_
              refine ks_zret rfl rfl dX3_isDerNumber_48 ?_
              refine ⟨?_, rfl⟩
              unfold derN
              rw [decide_eq_false (by omega)]
              rfl
            · refine ks_iconst (x := nI 1) dX3_isDerNumber_43 (by decide) rfl ?_
              refine ks_goto (tgt := 48) dX3_isDerNumber_44 (by decide) ?_
              refine ks_zret rfl rfl dX3_isDerNumber_48 ?_
              refine ⟨?_, rfl⟩
              unfold derN
              rw [decide_eq_true (by omega)]
              rfl
      · refine ks_iconst (x := nI 0) dX3_isDerNumber_20 (by decide) rfl ?_
        refine ks_zret rfl rfl dX3_isDerNumber_21 ?_
        refine ⟨?_, rfl⟩
        unfold derN
        rw [decide_eq_false (by omega)]
        rfl
set_option maxRecDepth 100000 in
set_option maxHeartbeats 800000 in
theorem c_cv_takeNumber {l : Launch} {G : ks_G} {d : Nat} {S : ks_S} {ir : Bool} {Q rw_ g : Nat → Nat} {q y N i c : Nat} (hO : S.2.2 14 = some (cvO ir)) (hQ : scX S Q) (hW : S.2.2 19 = some (kB 64 rw_)) (hrw : kO rw_) (hy : S.2.2 y = some (kB N g)) (hg : kO g) (hN : N < 2 ^ 20) (hi : i + c ≤ N) (hq : q < 5) (hy18 : y ≠ 18) (hy19 : y ≠ 19) : ks_P l G yX3_takeNumber mX3_takeNumber (d + 2) [.ref 14, .int (nI (9 * q)), .ref y, .int (nI i), .int (nI c)] S (fun z S' => z = some (.int (ks_bo (decide (0 < beW g i c ∧ beW g i c < nN)))) ∧ ks_up S S' [18, 19] ∧ ∃ Q2 r2, kO r2 ∧ S'.2.2 19 = some (kB 64 r2) ∧ scX S' Q2 ∧ (∀ j, j ≠ q → Q2 j = Q j) ∧ (0 < beW g i c ∧ beW g i c < nN → Q2 q = beW g i c)) := by
  have rest : (∀ k, k < c - 32 → g (i + k) = 0) → ks_X l G mX3_takeNumber (d + 2) 45 [(0, .ref 14), (1, .int (nI (9 * q))), (2, .ref y), (3, .int (nI i)), (4, .int (nI c)), (5, .int (nI (c - 32)))] [] S (fun z S' => z = some (.int (ks_bo (decide (0 < beW g i c ∧ beW g i c < nN)))) ∧ ks_up S S' [18, 19] ∧ ∃ Q2 r2, kO r2 ∧ S'.2.2 19 = some (kB 64 r2) ∧ scX S' Q2 ∧ (∀ j, j ≠ q → Q2 j = Q j) ∧ (0 < beW g i c ∧ beW g i c < nN → Q2 q = beW g i c)) := by
    intro hz
    refine ks_iload dX3_takeNumber_45 rfl rfl ?_
    refine ks_iload dX3_takeNumber_47 rfl rfl ?_
    refine ks_subN (by omega) dX3_takeNumber_49 rfl ?_
    refine ks_istore dX3_takeNumber_50 (by decide) rfl ?_
    refine ks_sub [(6, _), (0, _), (1, _), (2, _), (3, _), (4, _), (5, _)] rfl ?_
    refine ks_aload_n dX3_takeNumber_52 rfl rfl ?_
    refine ks_getf (T := TX3) (kf := 2) kx_537 rfl in_X3 cl_X3 (by decide) hO rfl dX3_takeNumber_53 rfl ?_
    refine ks_iconst (x := nI 0) dX3_takeNumber_56 (by decide) rfl ?_
    refine ks_bipush (x := nI 32) dX3_takeNumber_57 (by decide) rfl ?_
    refine ks_iconst (x := nI 0) dX3_takeNumber_59 (by decide) rfl ?_
    refine ks_callS (n := 4) (M' := mJ7_fill_eb02e) (c_fillBr (d := d) (x := 0) hW (by decide : 0 ≤ 32) (by decide) (by decide)) kx_1362 kx_898 kx_6 kx_899 (by decide +kernel) rfl (by decide) (Nat.le_of_ble_eq_true rfl) rfl dX3_takeNumber_60 rfl (fun z1 T1 y1 => ?_)
    obtain ⟨rfl, rfl⟩ := y1
    rw [show ks_by 0 = 0 from rfl]
    refine ks_aload_n dX3_takeNumber_63 rfl rfl ?_
    refine ks_iload_n dX3_takeNumber_64 rfl rfl ?_
    refine ks_iload dX3_takeNumber_65 rfl rfl ?_
    refine ks_addN dX3_takeNumber_67 rfl ?_
    refine ks_aload_n dX3_takeNumber_68 rfl rfl ?_
    refine ks_getf (T := TX3) (kf := 2) kx_537 rfl in_X3 cl_X3 (by decide) ((ks_set_ne _ _ (by decide)).trans hO) rfl dX3_takeNumber_69 rfl ?_
    refine ks_bipush (x := nI 32) dX3_takeNumber_72 (by decide) rfl ?_
    refine ks_iload dX3_takeNumber_74 rfl rfl ?_
    refine ks_subN (by omega) dX3_takeNumber_76 rfl ?_
    refine ks_iload dX3_takeNumber_77 rfl rfl ?_
    refine ks_copyB (n := c - (c - 32)) (dp := 32 - (c - (c - 32))) (sp := i + (c - 32)) ((ks_set_ne _ _ hy19).trans hy) (ks_set_same _ _ _) rfl rfl rfl (by omega) (by omega) (by omega) (by decide) kx_1363 kx_275 kx_274 kx_17 (by omega) (Nat.le_of_ble_eq_true rfl) dX3_takeNumber_79 rfl ?_
    have kr : kO (va_cpy g (ks_fill rw_ 0 32 0) (i + (c - 32)) (32 - (c - (c - 32))) (c - (c - 32))) := kO_cpy hg (kO_fill hrw _ _ (by decide)) _ _ _
    have en := (beN_tk (g := g) (rw_ := rw_) (i := i) (c := c)).trans (beW_zeros hz).symm
    generalize hr2 : (va_cpy g (ks_fill rw_ 0 32 0) (i + (c - 32)) (32 - (c - (c - 32))) (c - (c - 32))) = r2 at *
    generalize hT : ks_set (ks_set S 19 (kB 64 (ks_fill rw_ 0 32 0))) 19 (kB 64 r2) = T at *
    have u1 : ks_up S T [18, 19] := by rw [← hT]; exact (ks_up_set _ _ (by decide)).trans (ks_up_set _ _ (by decide))
    have Q1 : scX T Q := by rw [← hT]; exact (hQ.up (ks_up_set _ _ (by decide : 19 ∈ [19])) (by decide) (by decide)).up (ks_up_set _ _ (by decide : 19 ∈ [19])) (by decide) (by decide)
    have W1 : T.2.2 19 = some (kB 64 r2) := by rw [← hT]; exact ks_set_same _ _ _
    have O1 : T.2.2 14 = some (cvO ir) := u1.at hO (by decide)
    refine ks_aload_n dX3_takeNumber_82 rfl rfl ?_
    refine ks_getf (T := TX3) (kf := 1) kx_536 rfl in_X3 cl_X3 (by decide) O1 rfl dX3_takeNumber_83 rfl ?_
    refine ks_iload_n dX3_takeNumber_86 rfl rfl ?_
    refine ks_aload_n dX3_takeNumber_87 rfl rfl ?_
    refine ks_getf (T := TX3) (kf := 2) kx_537 rfl in_X3 cl_X3 (by decide) O1 rfl dX3_takeNumber_88 rfl ?_
    refine ks_iconst (x := nI 0) dX3_takeNumber_91 (by decide) rfl ?_
    refine ks_callV (n := 3) (M' := mX5_load) (c_fd_load (d := d + 1) (o := q) (i := 0) Q1.1 (by omega) W1 kr (by decide) (by decide) (by decide)) Q1.1.1 cl_X5 rfl kx_1365 kx_1366 kx_1367 kx_5 kx_1368 (by decide +kernel) rfl (by decide) (Nat.le_of_ble_eq_true rfl) rfl dX3_takeNumber_92 rfl (fun z2 T2 y2 => ?_)
    obtain ⟨rfl, u2, f2⟩ := y2
    rw [en] at f2
    have Q2 : scX T2 (va_up Q q (beW g i c)) := ⟨f2, (va_up_ne _ _ (by omega)).trans hQ.2⟩
    have O2 : T2.2.2 14 = some (cvO ir) := u2.at O1 (by decide)
    have W2 : T2.2.2 19 = some (kB 64 r2) := u2.at W1 (by decide)
    have uu : ks_up S T2 [18, 19] := u1.trans (u2.mono (by decide))
    have fin : ∃ Q2 r2, kO r2 ∧ T2.2.2 19 = some (kB 64 r2) ∧ scX T2 Q2 ∧ (∀ j, j ≠ q → Q2 j = Q j) ∧ (0 < beW g i c ∧ beW g i c < nN → Q2 q = beW g i c) := ⟨_, r2, kr, W2, Q2, fun j hj => va_up_ne _ _ hj, fun _ => va_up_self _ _ _⟩
    refine ks_aload_n dX3_takeNumber_95 rfl rfl ?_
    refine ks_getf (T := TX3) (kf := 1) kx_536 rfl in_X3 cl_X3 (by decide) O2 rfl dX3_takeNumber_96 rfl ?_
    refine ks_iload_n dX3_takeNumber_99 rfl rfl ?_
    refine ks_callV (n := 1) (M' := mX5_isZero) (c_fd_isZero (d := d + 1) (x := q) f2 (by omega)) Q2.1.1 cl_X5 rfl kx_526 kx_527 kx_528 kx_5 kx_529 (by decide +kernel) rfl (by decide) (Nat.le_of_ble_eq_true rfl) rfl dX3_takeNumber_100 rfl (fun z3 T3 y3 => ?_)
    obtain ⟨rfl, rfl⟩ := y3
    rw [va_up_self]
    refine ks_if_neZ (tgt := 128) dX3_takeNumber_103 (by decide) rfl (fun h1 => ?_) (fun h1 => ?_)
    · refine ks_iconst (x := nI 0) dX3_takeNumber_128 (by decide) rfl ?_
      refine ks_zret rfl rfl dX3_takeNumber_129 ?_
      refine ⟨?_, uu, fin⟩
      have h3 := of_decide_eq_true h1
      rw [decide_eq_false (by omega)]
      rfl
    · refine ks_aload_n dX3_takeNumber_106 rfl rfl ?_
      refine ks_getf (T := TX3) (kf := 1) kx_536 rfl in_X3 cl_X3 (by decide) O2 rfl dX3_takeNumber_107 rfl ?_
      refine ks_iload_n dX3_takeNumber_110 rfl rfl ?_
      refine ks_aload_n dX3_takeNumber_111 rfl rfl ?_
      refine ks_getf (T := TX3) (kf := 1) kx_536 rfl in_X3 cl_X3 (by decide) O2 rfl dX3_takeNumber_112 rfl ?_
      refine ks_getf (T := TX5) (kf := 1) kx_124 rfl in_X5 cl_X5 (by decide) Q2.1.1 rfl dX3_takeNumber_115 rfl ?_
      refine ks_callV (n := 2) (M' := mX5_isBelow) (c_fd_isBelow (d := d + 1) (x := q) (y := 5) f2 (by omega) (by decide)) Q2.1.1 cl_X5 rfl kx_1617 kx_1202 kx_1203 kx_5 kx_1204 (by decide +kernel) rfl (by decide) (Nat.le_of_ble_eq_true rfl) rfl dX3_takeNumber_118 rfl (fun z4 T4 y4 => ?_)
      obtain ⟨rfl, rfl⟩ := y4
      rw [va_up_self, Q2.2]
      have h3 := of_decide_eq_false h1
      refine ks_if_eqZ (tgt := 128) dX3_takeNumber_121 (by decide) rfl (fun h4 => ?_) (fun h4 => ?_)
      · refine ks_iconst (x := nI 0) dX3_takeNumber_128 (by decide) rfl ?_
        refine ks_zret rfl rfl dX3_takeNumber_129 ?_
        refine ⟨?_, uu, fin⟩
        have h5 := of_decide_eq_false h4
        rw [decide_eq_false (by omega)]
        rfl
      · refine ks_iconst (x := nI 1) dX3_takeNumber_124 (by decide) rfl ?_
        refine ks_goto (tgt := 129) dX3_takeNumber_125 (by decide) ?_
        refine ks_zret rfl rfl dX3_takeNumber_129 ?_
        refine ⟨?_, uu, fin⟩
        have h5 := of_decide_eq_true h4
        rw [decide_eq_true (by omega)]
        rfl
  have loop : ∀ m j, j + m = c - 32 → (∀ k, k < j → g (i + k) = 0) → ks_X l G mX3_takeNumber (d + 2) 21 [(0, .ref 14), (1, .int (nI (9 * q))), (2, .ref y), (3, .int (nI i)), (4, .int (nI c)), (5, .int (nI (c - 32))), (6, .int (nI j))] [] S (fun z S' => z = some (.int (ks_bo (decide (0 < beW g i c ∧ beW g i c < nN)))) ∧ ks_up S S' [18, 19] ∧ ∃ Q2 r2, kO r2 ∧ S'.2.2 19 = some (kB 64 r2) ∧ scX S' Q2 ∧ (∀ j, j ≠ q → Q2 j = Q j) ∧ (0 < beW g i c ∧ beW g i c < nN → Q2 q = beW g i c)) := by
    intro m
    induction m with
    | zero =>
      intro j hj hz
      refine ks_iload dX3_takeNumber_21 rfl rfl ?_
      refine ks_iload dX3_takeNumber_23 rfl rfl ?_
      refine ks_icmp_geN (tgt := 45) (by omega) (by omega) dX3_takeNumber_25 (by decide) rfl (fun h1 => ?_) (fun h1 => ?_)
      · refine ks_sub [(0, _), (1, _), (2, _), (3, _), (4, _), (5, _)] rfl ?_
        exact ks_sub [(0, _), (1, _), (2, _), (3, _), (4, _), (5, _)] rfl (rest (fun k hk => hz k (by omega)))
      · omega
    | succ m ih =>
      intro j hj hz
      refine ks_iload dX3_takeNumber_21 rfl rfl ?_
      refine ks_iload dX3_takeNumber_23 rfl rfl ?_
      refine ks_icmp_geN (tgt := 45) (by omega) (by omega) dX3_takeNumber_25 (by decide) rfl (fun h1 => ?_) (fun h1 => ?_)
      · omega
      · refine ks_aload_n dX3_takeNumber_28 rfl rfl ?_
        refine ks_iload_n dX3_takeNumber_29 rfl rfl ?_
        refine ks_iload dX3_takeNumber_30 rfl rfl ?_
        refine ks_addN dX3_takeNumber_32 rfl ?_
        refine ks_baldB (i := i + j) hy rfl (by omega) (by omega) dX3_takeNumber_33 rfl ?_
        refine ks_if_eqY (tgt := 39) (hg _) dX3_takeNumber_34 (by decide) rfl (fun h2 => ?_) (fun h2 => ?_)
        · refine ks_incN (c := 1) (e := j + 1) dX3_takeNumber_39 rfl (by decide) rfl (by decide) rfl ?_
          refine ks_sub [(6, _), (0, _), (1, _), (2, _), (3, _), (4, _), (5, _)] rfl ?_
          refine ks_goto (tgt := 21) dX3_takeNumber_42 (by decide) ?_
          exact ks_sub [(0, _), (1, _), (2, _), (3, _), (4, _), (5, _), (6, _)] rfl (ih (j + 1) (by omega) (fun k hk => by
            by_cases e : k = j
            · rw [e]; exact h2
            · exact hz k (by omega)))
        · refine ks_iconst (x := nI 0) dX3_takeNumber_37 (by decide) rfl ?_
          refine ks_zret rfl rfl dX3_takeNumber_38 ?_
          have h3 := beW_big (g := g) (i := i) (c := c) (j := j) (by omega) h2
          refine ⟨?_, ks_up.rf _ _, Q, rw_, hrw, hW, hQ, fun _ _ => rfl, fun h => absurd h.2 h3⟩
          rw [decide_eq_false (fun h => h3 h.2)]
          rfl
  refine ks_of (by decide) rfl rfl (Nat.le_of_ble_eq_true rfl) ?_
  show ks_X l G mX3_takeNumber (d + 2) 0 [(0, .ref 14), (1, .int (nI (9 * q))), (2, .ref y), (3, .int (nI i)), (4, .int (nI c))] [] S _
  refine ks_iload dX3_takeNumber_0 rfl rfl ?_
  refine ks_bipush (x := nI 32) dX3_takeNumber_2 (by decide) rfl ?_
  refine ks_icmp_leN (tgt := 15) (by omega) (by decide) dX3_takeNumber_4 (by decide) rfl (fun h1 => ?_) (fun h1 => ?_)
  · refine ks_iconst (x := nI 0) dX3_takeNumber_15 (by decide) rfl ?_
    refine ks_ti (y := nI (c - 32)) (by rw [show c - 32 = 0 by omega]) ?_
    refine ks_istore dX3_takeNumber_16 (by decide) rfl ?_
    refine ks_sub [(5, _), (0, _), (1, _), (2, _), (3, _), (4, _)] rfl ?_
    refine ks_iconst (x := nI 0) dX3_takeNumber_18 (by decide) rfl ?_
    refine ks_istore dX3_takeNumber_19 (by decide) rfl ?_
    refine ks_sub [(6, _), (0, _), (1, _), (2, _), (3, _), (4, _), (5, _)] rfl ?_
    exact ks_sub [(0, _), (1, _), (2, _), (3, _), (4, _), (5, _), (6, _)] rfl (loop (c - 32) 0 (by omega) (fun k hk => absurd hk (Nat.not_lt_zero k)))
  · refine ks_iload dX3_takeNumber_7 rfl rfl ?_
    refine ks_bipush (x := nI 32) dX3_takeNumber_9 (by decide) rfl ?_
    refine ks_subN (by omega) dX3_takeNumber_11 rfl ?_
    refine ks_goto (tgt := 16) dX3_takeNumber_12 (by decide) ?_
    refine ks_ti (y := nI (c - 32)) (rfl) ?_
    refine ks_istore dX3_takeNumber_16 (by decide) rfl ?_
    refine ks_sub [(5, _), (0, _), (1, _), (2, _), (3, _), (4, _)] rfl ?_
    refine ks_iconst (x := nI 0) dX3_takeNumber_18 (by decide) rfl ?_
    refine ks_istore dX3_takeNumber_19 (by decide) rfl ?_
    refine ks_sub [(6, _), (0, _), (1, _), (2, _), (3, _), (4, _), (5, _)] rfl ?_
    exact ks_sub [(0, _), (1, _), (2, _), (3, _), (4, _), (5, _), (6, _)] rfl (loop (c - 32) 0 (by omega) (fun k hk => absurd hk (Nat.not_lt_zero k)))
