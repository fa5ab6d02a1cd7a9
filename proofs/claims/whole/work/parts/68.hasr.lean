/-! CURVE: whether the sum has r; roots -/
theorem lay_x (Q R : Nat → Nat) (o x : Nat) : va_cpy (lay Q) (lay R) (9 * x) (9 * o) 9 = lay (va_up R o (Q x)) := by
  funext j
  unfold va_cpy
  rw [← layP_9]
  unfold layP
  by_cases c : 9 * o ≤ j ∧ j < 9 * o + 9
  · rw [if_pos c, if_pos c, lay_at Q x (by omega)]
  · rw [if_neg c, if_neg c]
theorem cvX.cp {S : ks_S} {ir : Bool} {R : Nat → Nat} {o v : Nat} (h : cvX S ir R) (ho : o < 100) (hv : v < 3705346855594118253554271520278013051304639509300498049262642688253220148477952) : cvX (ks_set S 16 (kL 945 (lay (va_up R o v)))) ir (va_up R o v) := h.of (ks_up_set _ _ (by decide)) (h.2.1.mk (ks_up_set _ _ (by decide)) (ks_set_same _ _ _) hv) (va_up_ne _ _ (by omega))
/-- whether the x of a point is r modulo the order -/
def shR (P : Pt) (r : Nat) : Bool := decide (P.2.2 ≠ 0 ∧ (mM r (mM P.2.2 P.2.2) = P.1 ∨ (r < pP - nN ∧ mM (r + nN) (mM P.2.2 P.2.2) = P.1)))
set_option maxRecDepth 100000 in
set_option maxHeartbeats 2000000 in
theorem c_cv_sumHasR {l : Launch} {G : ks_G} {d : Nat} {S : ks_S} {R Q : Nat → Nat} {ir : Bool} (hC : cvX S ir R) (hQ : scX S Q) (hS : ptL (ptR R 7)) (hr : Q 0 < nN) : ks_P l G yX3_sumHasR mX3_sumHasR (d + 1) [.ref 14] S (fun z S' => z = some (.int (ks_bo (shR (ptR R 7) (Q 0)))) ∧ ks_up S S' [16] ∧ ∃ R2, cvX S' ir R2 ∧ (∀ j, 6 ≤ j → R2 j = R j)) := by
  have np : nN < pP := by decide
  have p2 := pP_lt
  have bz : R 9 < pP := hS.2.2
  have bx : R 7 < pP := hS.1
  have esh : shR (ptR R 7) (Q 0) = decide (R 9 ≠ 0 ∧ (mM (Q 0) (mM (R 9) (R 9)) = R 7 ∨ (Q 0 < pP - nN ∧ mM (Q 0 + nN) (mM (R 9) (R 9)) = R 7))) := rfl
  rw [esh]
  have q0 : Q 0 < pP := Nat.lt_trans hr np
  have R9 : R 9 = R 9 := rfl
  have R7 : R 7 = R 7 := rfl
  have Z0 : ∀ j, 6 ≤ j → R j = R j := fun _ _ => rfl
  obtain ⟨zz, hzz⟩ : ∃ v, mM (R 9) (R 9) = v := ⟨_, rfl⟩
  have bzz : zz < pP := by rw [← hzz]; exact mM_lt _ _
  rw [hzz]
  obtain ⟨pn, hpn⟩ : ∃ v, pP - nN = v := ⟨_, rfl⟩
  rw [hpn]
  refine ks_of (by decide) rfl rfl (Nat.le_of_ble_eq_true rfl) ?_
  show ks_X l G mX3_sumHasR (d + 1) 0 [(0, .ref 14)] [] S _
  refine ks_aload_n dX3_sumHasR_0 rfl rfl ?_
  refine ks_getf (T := TX3) (kf := 0) kx_535 rfl in_X3 cl_X3 (by decide) hC.1 rfl dX3_sumHasR_1 rfl ?_
  refine ks_bipush (x := nI 81) dX3_sumHasR_4 (by decide) rfl ?_
  refine ks_callV (n := 1) (M' := mX5_isZero) (c_fd_isZero (d := d) (x := 9) hC.2.1 (by decide)) hC.2.1.1 cl_X5 rfl kx_526 kx_527 kx_528 kx_5 kx_529 (by decide +kernel) rfl (by decide) (Nat.le_of_ble_eq_true rfl) rfl dX3_sumHasR_6 rfl (fun za Ta ya => ?_)
  obtain ⟨rfl, hSa⟩ := ya
  obtain rfl := hSa.symm
  rw [R9]
  refine ks_if_eqZ (tgt := 14) dX3_sumHasR_9 (by decide) rfl (fun g1 => ?_) (fun g1 => ?_)
  · have hz := of_decide_eq_false g1
    refine ks_aload_n dX3_sumHasR_14 rfl rfl ?_
    refine ks_iconst (x := nI 0) dX3_sumHasR_15 (by decide) rfl ?_
    refine ks_bipush (x := nI 81) dX3_sumHasR_16 (by decide) rfl ?_
    refine ks_bipush (x := nI 81) dX3_sumHasR_18 (by decide) rfl ?_
    refine ks_callV (n := 3) (M' := mX3_multiply) (c_cvm (d := d) (o := 0) (x := 9) (y := 9) hC (by decide) (by decide) (by decide) (Nat.lt_trans (lt_of_eq9 R9 bz) pP_lt) (Nat.lt_trans (lt_of_eq9 R9 bz) pP_lt)) hC.1 cl_X3 rfl kx_502 kx_504 kxp_2 kx_4 kx_505 (by decide +kernel) rfl (by decide) (Nat.le_of_ble_eq_true rfl) rfl dX3_sumHasR_20 rfl (fun z1 T1 y1 => ?_)
    obtain ⟨rfl, u1, C1⟩ := y1
    rw [R9] at C1
    rw [hzz] at C1
    obtain ⟨Q1, s1⟩ : ∃ F, F = va_up R 0 (zz) := ⟨_, rfl⟩
    rw [← s1] at C1
    have r1 : Q1 0 = zz := by rw [s1]; exact va_up_self _ _ _
    have r1_7 : Q1 7 = R 7 := by rw [s1]; exact (va_up_ne _ _ (by decide)).trans R7
    have z1_ : ∀ j, 6 ≤ j → Q1 j = R j := fun j h => by rw [s1]; exact (va_up_ne _ _ (ne6 h (by decide))).trans (Z0 j h)
    have h1Q := hQ.up u1 (by decide) (by decide)
    refine ks_aload_n dX3_sumHasR_23 rfl rfl ?_
    refine ks_getf (T := TX3) (kf := 1) kx_536 rfl in_X3 cl_X3 (by decide) C1.1 rfl dX3_sumHasR_24 rfl ?_
    refine ks_getf (T := TX5) (kf := 0) kx_122 rfl in_X5 cl_X5 (by decide) h1Q.1.1 rfl dX3_sumHasR_27 rfl ?_
    refine ks_iconst (x := nI 0) dX3_sumHasR_30 (by decide) rfl ?_
    refine ks_aload_n dX3_sumHasR_31 rfl rfl ?_
    refine ks_getf (T := TX3) (kf := 0) kx_535 rfl in_X3 cl_X3 (by decide) C1.1 rfl dX3_sumHasR_32 rfl ?_
    refine ks_getf (T := TX5) (kf := 0) kx_122 rfl in_X5 cl_X5 (by decide) C1.2.1.1 rfl dX3_sumHasR_35 rfl ?_
    refine ks_bipush (x := nI 9) dX3_sumHasR_38 (by decide) rfl ?_
    refine ks_bipush (x := nI 9) dX3_sumHasR_40 (by decide) rfl ?_
    refine ks_copyl (n := 9) (dp := 9) (sp := 0) h1Q.1.2.1 C1.2.1.2.1 (by omega) (by omega) (by decide) (by decide) kx_1363 kx_275 kx_274 kx_17 (by omega) (Nat.le_of_ble_eq_true rfl) dX3_sumHasR_42 rfl ?_
    refine ks_tS (by rw [kL_cpy]) ?_
    refine ks_tS (congrArg (fun e => ks_set _ 16 (kL 945 e)) (lay_x Q Q1 1 0)) ?_
    generalize hT2 : ks_set _ 16 (kL 945 (lay (va_up Q1 1 (Q 0)))) = T2
    have u2 : ks_up T1 T2 [16] := by rw [← hT2]; exact ks_up_set _ _ (by decide)
    have C2 : cvX T2 ir (va_up Q1 1 (Q 0)) := by rw [← hT2]; exact C1.cp (by decide) (hQ.1.2.2.2.2 0)
    obtain ⟨Q2, s2⟩ : ∃ F, F = va_up Q1 1 (Q 0) := ⟨_, rfl⟩
    rw [← s2] at C2
    have r2 : Q2 1 = Q 0 := by rw [s2]; exact va_up_self _ _ _
    have r2_0 : Q2 0 = zz := by rw [s2]; exact (va_up_ne _ _ (by decide)).trans r1
    have r2_7 : Q2 7 = R 7 := by rw [s2]; exact (va_up_ne _ _ (by decide)).trans r1_7
    have z2_ : ∀ j, 6 ≤ j → Q2 j = R j := fun j h => by rw [s2]; exact (va_up_ne _ _ (ne6 h (by decide))).trans (z1_ j h)
    have h2Q := h1Q.up u2 (by decide) (by decide)
    refine ks_aload_n dX3_sumHasR_45 rfl rfl ?_
    refine ks_bipush (x := nI 18) dX3_sumHasR_46 (by decide) rfl ?_
    refine ks_bipush (x := nI 9) dX3_sumHasR_48 (by decide) rfl ?_
    refine ks_iconst (x := nI 0) dX3_sumHasR_50 (by decide) rfl ?_
    refine ks_callV (n := 3) (M' := mX3_multiply) (c_cvm (d := d) (o := 2) (x := 1) (y := 0) C2 (by decide) (by decide) (by decide) (Nat.lt_trans (lt_of_eq9 r2 q0) pP_lt) (Nat.lt_trans (lt_of_eq9 r2_0 bzz) pP_lt)) C2.1 cl_X3 rfl kx_502 kx_504 kxp_2 kx_4 kx_505 (by decide +kernel) rfl (by decide) (Nat.le_of_ble_eq_true rfl) rfl dX3_sumHasR_51 rfl (fun z3 T3 y3 => ?_)
    obtain ⟨rfl, u3, C3⟩ := y3
    rw [r2, r2_0] at C3
    obtain ⟨Q3, s3⟩ : ∃ F, F = va_up Q2 2 (mM (Q 0) zz) := ⟨_, rfl⟩
    rw [← s3] at C3
    have r3 : Q3 2 = mM (Q 0) zz := by rw [s3]; exact va_up_self _ _ _
    have r3_0 : Q3 0 = zz := by rw [s3]; exact (va_up_ne _ _ (by decide)).trans r2_0
    have r3_1 : Q3 1 = Q 0 := by rw [s3]; exact (va_up_ne _ _ (by decide)).trans r2
    have r3_7 : Q3 7 = R 7 := by rw [s3]; exact (va_up_ne _ _ (by decide)).trans r2_7
    have z3_ : ∀ j, 6 ≤ j → Q3 j = R j := fun j h => by rw [s3]; exact (va_up_ne _ _ (ne6 h (by decide))).trans (z2_ j h)
    have h3Q := h2Q.up u3 (by decide) (by decide)
    refine ks_aload_n dX3_sumHasR_54 rfl rfl ?_
    refine ks_getf (T := TX3) (kf := 0) kx_535 rfl in_X3 cl_X3 (by decide) C3.1 rfl dX3_sumHasR_55 rfl ?_
    refine ks_bipush (x := nI 18) dX3_sumHasR_58 (by decide) rfl ?_
    refine ks_bipush (x := nI 63) dX3_sumHasR_60 (by decide) rfl ?_
    refine ks_callV (n := 2) (M' := mX5_isSame) (c_fd_isSame (d := d) (x := 2) (y := 7) C3.2.1 (by decide) (by decide)) C3.2.1.1 cl_X5 rfl kx_1628 kx_1629 kx_1630 kx_5 kx_1631 (by decide +kernel) rfl (by decide) (Nat.le_of_ble_eq_true rfl) rfl dX3_sumHasR_62 rfl (fun za Ta ya => ?_)
    obtain ⟨rfl, hSa⟩ := ya
    obtain rfl := hSa.symm
    rw [r3, r3_7]
    refine ks_if_eqZ (tgt := 70) dX3_sumHasR_65 (by decide) rfl (fun g2 => ?_) (fun g2 => ?_)
    · have h2 := of_decide_eq_false g2
      refine ks_aload_n dX3_sumHasR_70 rfl rfl ?_
      refine ks_getf (T := TX3) (kf := 1) kx_536 rfl in_X3 cl_X3 (by decide) C3.1 rfl dX3_sumHasR_71 rfl ?_
      refine ks_getf (T := TX5) (kf := 0) kx_122 rfl in_X5 cl_X5 (by decide) h3Q.1.1 rfl dX3_sumHasR_74 rfl ?_
      refine ks_aload_n dX3_sumHasR_77 rfl rfl ?_
      refine ks_getf (T := TX3) (kf := 1) kx_536 rfl in_X3 cl_X3 (by decide) C3.1 rfl dX3_sumHasR_78 rfl ?_
      refine ks_getf (T := TX5) (kf := 1) kx_124 rfl in_X5 cl_X5 (by decide) h3Q.1.1 rfl dX3_sumHasR_81 rfl ?_
      refine ks_aload_n dX3_sumHasR_84 rfl rfl ?_
      refine ks_getf (T := TX3) (kf := 0) kx_535 rfl in_X3 cl_X3 (by decide) C3.1 rfl dX3_sumHasR_85 rfl ?_
      refine ks_getf (T := TX5) (kf := 0) kx_122 rfl in_X5 cl_X5 (by decide) C3.2.1.1 rfl dX3_sumHasR_88 rfl ?_
      refine ks_bipush (x := nI 27) dX3_sumHasR_91 (by decide) rfl ?_
      refine ks_bipush (x := nI 9) dX3_sumHasR_93 (by decide) rfl ?_
      refine ks_copyl (n := 9) (dp := 27) (sp := 9 * 5) h3Q.1.2.1 C3.2.1.2.1 (by omega) (by omega) (by decide) (by decide) kx_1363 kx_275 kx_274 kx_17 (by omega) (Nat.le_of_ble_eq_true rfl) dX3_sumHasR_95 rfl ?_
      refine ks_tS (by rw [kL_cpy]) ?_
      refine ks_tS (congrArg (fun e => ks_set _ 16 (kL 945 e)) (lay_x Q Q3 3 5)) ?_
      generalize hT4 : ks_set _ 16 (kL 945 (lay (va_up Q3 3 (Q 5)))) = T4
      have u4 : ks_up T3 T4 [16] := by rw [← hT4]; exact ks_up_set _ _ (by decide)
      have C4 : cvX T4 ir (va_up Q3 3 (Q 5)) := by rw [← hT4]; exact C3.cp (by decide) (hQ.1.2.2.2.2 5)
      rw [hQ.2] at C4
      obtain ⟨Q4, s4⟩ : ∃ F, F = va_up Q3 3 (nN) := ⟨_, rfl⟩
      rw [← s4] at C4
      have r4 : Q4 3 = nN := by rw [s4]; exact va_up_self _ _ _
      have r4_0 : Q4 0 = zz := by rw [s4]; exact (va_up_ne _ _ (by decide)).trans r3_0
      have r4_1 : Q4 1 = Q 0 := by rw [s4]; exact (va_up_ne _ _ (by decide)).trans r3_1
      have r4_7 : Q4 7 = R 7 := by rw [s4]; exact (va_up_ne _ _ (by decide)).trans r3_7
      have z4_ : ∀ j, 6 ≤ j → Q4 j = R j := fun j h => by rw [s4]; exact (va_up_ne _ _ (ne6 h (by decide))).trans (z3_ j h)
      have h4Q := h3Q.up u4 (by decide) (by decide)
      refine ks_aload_n dX3_sumHasR_98 rfl rfl ?_
      refine ks_getf (T := TX3) (kf := 0) kx_535 rfl in_X3 cl_X3 (by decide) C4.1 rfl dX3_sumHasR_99 rfl ?_
      refine ks_bipush (x := nI 36) dX3_sumHasR_102 (by decide) rfl ?_
      refine ks_aload_n dX3_sumHasR_104 rfl rfl ?_
      refine ks_getf (T := TX3) (kf := 0) kx_535 rfl in_X3 cl_X3 (by decide) C4.1 rfl dX3_sumHasR_105 rfl ?_
      refine ks_getf (T := TX5) (kf := 1) kx_124 rfl in_X5 cl_X5 (by decide) C4.2.1.1 rfl dX3_sumHasR_108 rfl ?_
      refine ks_bipush (x := nI 27) dX3_sumHasR_111 (by decide) rfl ?_
      refine ks_callV (n := 3) (M' := mX5_subtract) (c_fd_subtract (d := d) (o := 4) (x := 100) (y := 3) C4.2.1 (by decide) (by decide) (by decide) (by decide) (by rw [r4, C4.2.2]; omega) (by rw [r4, C4.2.2]; omega)) C4.2.1.1 cl_X5 rfl kx_518 kx_519 kx_520 kx_5 kx_521 (by decide +kernel) rfl (by decide) (Nat.le_of_ble_eq_true rfl) rfl dX3_sumHasR_113 rfl (fun z5 T5 y5 => ?_)
      obtain ⟨rfl, u5, f5⟩ := y5
      rw [r4, C4.2.2, if_pos (Nat.le_of_lt np), hpn] at f5
      have C5 := C4.of u5 f5 (va_up_ne _ _ (by decide))
      have bpn : pn < pP := by rw [← hpn]; decide
      obtain ⟨Q5, s5⟩ : ∃ F, F = va_up Q4 4 (pn) := ⟨_, rfl⟩
      rw [← s5] at C5
      have r5 : Q5 4 = pn := by rw [s5]; exact va_up_self _ _ _
      have r5_0 : Q5 0 = zz := by rw [s5]; exact (va_up_ne _ _ (by decide)).trans r4_0
      have r5_1 : Q5 1 = Q 0 := by rw [s5]; exact (va_up_ne _ _ (by decide)).trans r4_1
      have r5_3 : Q5 3 = nN := by rw [s5]; exact (va_up_ne _ _ (by decide)).trans r4
      have r5_7 : Q5 7 = R 7 := by rw [s5]; exact (va_up_ne _ _ (by decide)).trans r4_7
      have z5_ : ∀ j, 6 ≤ j → Q5 j = R j := fun j h => by rw [s5]; exact (va_up_ne _ _ (ne6 h (by decide))).trans (z4_ j h)
      have h5Q := h4Q.up u5 (by decide) (by decide)
      refine ks_aload_n dX3_sumHasR_116 rfl rfl ?_
      refine ks_getf (T := TX3) (kf := 0) kx_535 rfl in_X3 cl_X3 (by decide) C5.1 rfl dX3_sumHasR_117 rfl ?_
      refine ks_bipush (x := nI 9) dX3_sumHasR_120 (by decide) rfl ?_
      refine ks_bipush (x := nI 36) dX3_sumHasR_122 (by decide) rfl ?_
      refine ks_callV (n := 2) (M' := mX5_isBelow) (c_fd_isBelow (d := d) (x := 1) (y := 4) C5.2.1 (by decide) (by decide)) C5.2.1.1 cl_X5 rfl kx_1617 kx_1202 kx_1203 kx_5 kx_1204 (by decide +kernel) rfl (by decide) (Nat.le_of_ble_eq_true rfl) rfl dX3_sumHasR_124 rfl (fun za Ta ya => ?_)
      obtain ⟨rfl, hSa⟩ := ya
      obtain rfl := hSa.symm
      rw [r5_1, r5]
      refine ks_if_neZ (tgt := 132) dX3_sumHasR_127 (by decide) rfl (fun g3 => ?_) (fun g3 => ?_)
      · have h3 := of_decide_eq_true g3
        have qs : Q 0 + nN < pP := by rw [← hpn] at h3; omega
        refine ks_aload_n dX3_sumHasR_132 rfl rfl ?_
        refine ks_getf (T := TX3) (kf := 0) kx_535 rfl in_X3 cl_X3 (by decide) C5.1 rfl dX3_sumHasR_133 rfl ?_
        refine ks_bipush (x := nI 9) dX3_sumHasR_136 (by decide) rfl ?_
        refine ks_bipush (x := nI 9) dX3_sumHasR_138 (by decide) rfl ?_
        refine ks_bipush (x := nI 27) dX3_sumHasR_140 (by decide) rfl ?_
        refine ks_callV (n := 3) (M' := mX5_add) (c_cva (d := d) (o := 1) (x := 1) (y := 3) C5 (by decide) (by decide) (by decide) (lt_of_eq9 r5_1 q0) (lt_of_eq9 r5_3 np)) C5.2.1.1 cl_X5 rfl kx_514 kx_515 kx_516 kx_5 kx_517 (by decide +kernel) rfl (by decide) (Nat.le_of_ble_eq_true rfl) rfl dX3_sumHasR_142 rfl (fun z6 T6 y6 => ?_)
        obtain ⟨rfl, u6, C6⟩ := y6
        rw [r5_1, r5_3, show aM (Q 0) nN = Q 0 + nN from Nat.mod_eq_of_lt qs] at C6
        obtain ⟨Q6, s6⟩ : ∃ F, F = va_up Q5 1 (Q 0 + nN) := ⟨_, rfl⟩
        rw [← s6] at C6
        have r6 : Q6 1 = Q 0 + nN := by rw [s6]; exact va_up_self _ _ _
        have r6_0 : Q6 0 = zz := by rw [s6]; exact (va_up_ne _ _ (by decide)).trans r5_0
        have r6_7 : Q6 7 = R 7 := by rw [s6]; exact (va_up_ne _ _ (by decide)).trans r5_7
        have z6_ : ∀ j, 6 ≤ j → Q6 j = R j := fun j h => by rw [s6]; exact (va_up_ne _ _ (ne6 h (by decide))).trans (z5_ j h)
        have h6Q := h5Q.up u6 (by decide) (by decide)
        refine ks_aload_n dX3_sumHasR_145 rfl rfl ?_
        refine ks_bipush (x := nI 18) dX3_sumHasR_146 (by decide) rfl ?_
        refine ks_bipush (x := nI 9) dX3_sumHasR_148 (by decide) rfl ?_
        refine ks_iconst (x := nI 0) dX3_sumHasR_150 (by decide) rfl ?_
        refine ks_callV (n := 3) (M' := mX3_multiply) (c_cvm (d := d) (o := 2) (x := 1) (y := 0) C6 (by decide) (by decide) (by decide) (Nat.lt_trans (lt_of_eq9 r6 qs) pP_lt) (Nat.lt_trans (lt_of_eq9 r6_0 bzz) pP_lt)) C6.1 cl_X3 rfl kx_502 kx_504 kxp_2 kx_4 kx_505 (by decide +kernel) rfl (by decide) (Nat.le_of_ble_eq_true rfl) rfl dX3_sumHasR_151 rfl (fun z7 T7 y7 => ?_)
        obtain ⟨rfl, u7, C7⟩ := y7
        rw [r6, r6_0] at C7
        obtain ⟨Q7, s7⟩ : ∃ F, F = va_up Q6 2 (mM (Q 0 + nN) zz) := ⟨_, rfl⟩
        rw [← s7] at C7
        have r7 : Q7 2 = mM (Q 0 + nN) zz := by rw [s7]; exact va_up_self _ _ _
        have r7_7 : Q7 7 = R 7 := by rw [s7]; exact (va_up_ne _ _ (by decide)).trans r6_7
        have z7_ : ∀ j, 6 ≤ j → Q7 j = R j := fun j h => by rw [s7]; exact (va_up_ne _ _ (ne6 h (by decide))).trans (z6_ j h)
        have h7Q := h6Q.up u7 (by decide) (by decide)
        refine ks_aload_n dX3_sumHasR_154 rfl rfl ?_
        refine ks_getf (T := TX3) (kf := 0) kx_535 rfl in_X3 cl_X3 (by decide) C7.1 rfl dX3_sumHasR_155 rfl ?_
        refine ks_bipush (x := nI 18) dX3_sumHasR_158 (by decide) rfl ?_
        refine ks_bipush (x := nI 63) dX3_sumHasR_160 (by decide) rfl ?_
        refine ks_callV (n := 2) (M' := mX5_isSame) (c_fd_isSame (d := d) (x := 2) (y := 7) C7.2.1 (by decide) (by decide)) C7.2.1.1 cl_X5 rfl kx_1628 kx_1629 kx_1630 kx_5 kx_1631 (by decide +kernel) rfl (by decide) (Nat.le_of_ble_eq_true rfl) rfl dX3_sumHasR_162 rfl (fun za Ta ya => ?_)
        obtain ⟨rfl, hSa⟩ := ya
        obtain rfl := hSa.symm
        rw [r7, r7_7]
        refine ks_zret rfl (ks_bo_z _) dX3_sumHasR_165 ?_
        refine ⟨?_, ((((((u1.trans u2).trans u3).trans u4).trans u5).trans u6).trans u7), Q7, C7, z7_⟩
        congr 3
        exact decide_eq_decide.mpr ⟨fun h => ⟨hz, Or.inr ⟨h3, h⟩⟩, fun h => by rcases h.2 with h8 | h8; exact absurd h8 h2; exact h8.2⟩
      · refine ks_iconst (x := nI 0) dX3_sumHasR_130 (by decide) rfl ?_
        refine ks_zret rfl rfl dX3_sumHasR_131 ?_
        refine ⟨?_, ((((u1.trans u2).trans u3).trans u4).trans u5), Q5, C5, z5_⟩
        rw [decide_eq_false (fun h => by have := of_decide_eq_false g3; rcases h.2 with h8 | h8; exact h2 h8; exact this h8.1)]
        rfl
    · refine ks_iconst (x := nI 1) dX3_sumHasR_68 (by decide) rfl ?_
      refine ks_zret rfl rfl dX3_sumHasR_69 ?_
      refine ⟨?_, ((u1.trans u2).trans u3), Q3, C3, z3_⟩
      rw [decide_eq_true (⟨hz, Or.inl (of_decide_eq_true g2)⟩)]
      rfl
  · refine ks_iconst (x := nI 0) dX3_sumHasR_12 (by decide) rfl ?_
    refine ks_zret rfl rfl dX3_sumHasR_13 ?_
    refine ⟨?_, ks_up.rf _ _, R, hC, Z0⟩
    rw [decide_eq_false (fun h => h.1 (of_decide_eq_true g1))]
    rfl
