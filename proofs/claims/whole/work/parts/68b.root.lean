theorem rt_row {S : ks_S} (hK : ks_stOK S) : S.2.2 (ks_B + 4) = some (kI 8 (ks_row st_ROOT_POWER)) := hK 4 _ rfl
def eR : Nat := 28948022309329048855892746252171976963317496166410141009864396001977208667916
/-- a power by squares, from the highest bit on -/
def rtL (a : Nat) : Nat → Nat → Nat
  | 0, v => v
  | c + 1, v => rtL a c (if eR / 2 ^ c % 2 = 1 then mM (mM v v) a else mM v v)
theorem root_bit : ∀ b, b < 256 → ks_ur (ks_row st_ROOT_POWER (7 - b / 32)) (nI (b % 32)) &&& nI 1 = nI (eR / 2 ^ b % 2) := by decide +kernel
theorem rtL_lt {a : Nat} : ∀ {c v : Nat}, v < pP → rtL a c v < pP
  | 0, v, h => h
  | c + 1, v, h => rtL_lt (c := c) (by split <;> exact mM_lt _ _)
set_option maxRecDepth 100000 in
set_option maxHeartbeats 800000 in
theorem c_cv_takeRoot {l : Launch} {G : ks_G} {d : Nat} {S : ks_S} {R : Nat → Nat} {ir : Bool} {o x : Nat} (hC : cvX S ir R) (hK : ks_stOK S) (ho : o < 100) (hx : x < 100) (hox : o ≠ x) (hX : R x < pP) : ks_P l G yX3_takeRoot mX3_takeRoot (d + 3) [.ref 14, .int (nI (9 * o)), .int (nI (9 * x))] S (fun z S' => z = none ∧ ks_up S S' [16] ∧ ∃ R2, cvX S' ir R2 ∧ R2 o = rtL (R x) 256 1 ∧ (∀ j, j ≠ o → R2 j = R j)) := by
  have p2 := pP_lt
  obtain ⟨F, hF⟩ : ∃ F, rtL (R x) = F := ⟨_, rfl⟩
  have F0 : ∀ v, F 0 v = v := by rw [← hF]; intro v; rfl
  have F1 : ∀ c v, F (c + 1) v = F c (if eR / 2 ^ c % 2 = 1 then mM (mM v v) (R x) else mM v v) := by rw [← hF]; intro c v; rfl
  rw [hF]
  have loop : ∀ c (S1 : ks_S) (R1 : Nat → Nat), c ≤ 256 → ks_up S S1 [16] → cvX S1 ir R1 → R1 o < pP → (∀ j, j ≠ o → R1 j = R j) → ks_X l G mX3_takeRoot (d + 3) 13 [(0, .ref 14), (1, .int (nI (9 * o))), (2, .int (nI (9 * x))), (3, .int (nI c - 1))] [] S1 (fun z S' => z = none ∧ ks_up S S' [16] ∧ ∃ R2, cvX S' ir R2 ∧ R2 o = F c (R1 o) ∧ (∀ j, j ≠ o → R2 j = R j)) := by
    intro c
    induction c with
    | zero =>
      intro S1 R1 hc hu hC1 hl hj
      refine ks_iload_n dX3_takeRoot_13 rfl rfl ?_
      refine ks_if_ltD (tgt := 58) (by omega) dX3_takeRoot_14 (by decide) rfl (fun h1 => ?_) (fun h1 => ?_)
      · refine ks_ret rfl dX3_takeRoot_58 ?_
        exact ⟨rfl, hu, R1, hC1, (F0 _).symm, hj⟩
      · exact absurd rfl h1
    | succ c ih =>
      intro S1 R1 hc hu hC1 hl hj
      rw [nI_pred]
      have hx1 : R1 x = R x := hj x (Ne.symm hox)
      refine ks_iload_n dX3_takeRoot_13 rfl rfl ?_
      refine ks_if_ltN (tgt := 58) (by omega) dX3_takeRoot_14 (by decide) rfl ?_
      refine ks_aload_n dX3_takeRoot_17 rfl rfl ?_
      refine ks_iload_n dX3_takeRoot_18 rfl rfl ?_
      refine ks_iload_n dX3_takeRoot_19 rfl rfl ?_
      refine ks_iload_n dX3_takeRoot_20 rfl rfl ?_
      refine ks_callV (n := 3) (M' := mX3_multiply) (c_cvm (d := d + 2) (o := o) (x := o) (y := o) hC1 ho (by omega) (by omega) (by omega) (by omega)) hC1.1 cl_X3 rfl kx_502 kx_504 kxp_2 kx_4 kx_505 (by decide +kernel) rfl (by decide) (Nat.le_of_ble_eq_true rfl) rfl dX3_takeRoot_21 rfl (fun z2 T2 y2 => ?_)
      obtain ⟨rfl, u2, C2⟩ := y2
      have K2 := (hu.trans u2).st hK (by unfold ks_B; decide)
      have s2 : va_up R1 o (mM (R1 o) (R1 o)) o = mM (R1 o) (R1 o) := va_up_self _ _ _
      have j2 : ∀ j, j ≠ o → va_up R1 o (mM (R1 o) (R1 o)) j = R j := fun j h => (va_up_ne _ _ h).trans (hj j h)
      refine ks_gets (i := 4) rfl rfl kx_1626 dX3_takeRoot_24 rfl ?_
      refine ks_bipush (x := nI 7) dX3_takeRoot_27 (by decide) rfl ?_
      refine ks_iload_n dX3_takeRoot_29 rfl rfl ?_
      refine ks_bipush (x := nI 32) dX3_takeRoot_30 (by decide) rfl ?_
      refine ks_divN (by omega) (by decide) (by decide) dX3_takeRoot_32 rfl ?_
      refine ks_subN (by omega) dX3_takeRoot_33 rfl ?_
      refine ks_ialdN (i := 7 - (c / 32)) (rt_row K2) rfl (by omega) (by decide) dX3_takeRoot_34 rfl ?_
      refine ks_iload_n dX3_takeRoot_35 rfl rfl ?_
      refine ks_bipush (x := nI 32) dX3_takeRoot_36 (by decide) rfl ?_
      refine ks_remN (by omega) (by decide) (by decide) dX3_takeRoot_38 rfl ?_
      refine ks_iushr dX3_takeRoot_39 rfl ?_
      refine ks_iconst (x := nI 1) dX3_takeRoot_40 (by decide) rfl ?_
      refine ks_iand dX3_takeRoot_41 rfl ?_
      refine ks_ti (y := nI (eR / 2 ^ c % 2)) (root_bit c (by omega)) ?_
      have b2 : eR / 2 ^ c % 2 < 2 := Nat.mod_lt _ (by decide)
      refine ks_if_eqN (tgt := 52) (by omega) dX3_takeRoot_42 (by decide) rfl (fun h2 => ?_) (fun h2 => ?_)
      · refine ks_incD dX3_takeRoot_52 rfl (by decide) (by decide) rfl ?_
        refine ks_sub [(3, _), (0, _), (1, _), (2, _)] rfl ?_
        refine ks_goto (tgt := 13) dX3_takeRoot_55 (by decide) ?_
        have h7 := ih _ _ (by omega) (hu.trans u2) C2 (by rw [s2]; exact mM_lt _ _) j2
        rw [s2] at h7
        rw [F1, if_neg (by omega)]
        exact ks_sub [(0, _), (1, _), (2, _), (3, _)] rfl h7
      · refine ks_aload_n dX3_takeRoot_45 rfl rfl ?_
        refine ks_iload_n dX3_takeRoot_46 rfl rfl ?_
        refine ks_iload_n dX3_takeRoot_47 rfl rfl ?_
        refine ks_iload_n dX3_takeRoot_48 rfl rfl ?_
        refine ks_callV (n := 3) (M' := mX3_multiply) (c_cvm (d := d + 2) (o := o) (x := o) (y := x) C2 ho (by omega) (by omega) (by rw [s2]; have := mM_lt (R1 o) (R1 o); omega) (by rw [j2 x (Ne.symm hox)]; omega)) C2.1 cl_X3 rfl kx_502 kx_504 kxp_2 kx_4 kx_505 (by decide +kernel) rfl (by decide) (Nat.le_of_ble_eq_true rfl) rfl dX3_takeRoot_49 rfl (fun z3 T3 y3 => ?_)
        obtain ⟨rfl, u3, C3⟩ := y3
        rw [s2, j2 x (Ne.symm hox)] at C3
        have K3 := u3.st K2 (by unfold ks_B; decide)
        refine ks_incD dX3_takeRoot_52 rfl (by decide) (by decide) rfl ?_
        refine ks_sub [(3, _), (0, _), (1, _), (2, _)] rfl ?_
        refine ks_goto (tgt := 13) dX3_takeRoot_55 (by decide) ?_
        have h7 := ih _ _ (by omega) (hu.trans (u2.trans u3)) C3 (by rw [va_up_self]; exact mM_lt _ _) (fun j h => (va_up_ne _ _ h).trans (j2 j h))
        rw [va_up_self] at h7
        rw [F1, if_pos (by omega)]
        exact ks_sub [(0, _), (1, _), (2, _), (3, _)] rfl h7
  refine ks_of (by decide) rfl rfl (Nat.le_of_ble_eq_true rfl) ?_
  show ks_X l G mX3_takeRoot (d + 3) 0 [(0, .ref 14), (1, .int (nI (9 * o))), (2, .int (nI (9 * x)))] [] S _
  refine ks_aload_n dX3_takeRoot_0 rfl rfl ?_
  refine ks_getf (T := TX3) (kf := 0) kx_535 rfl in_X3 cl_X3 (by decide) hC.1 rfl dX3_takeRoot_1 rfl ?_
  refine ks_iload_n dX3_takeRoot_4 rfl rfl ?_
  refine ks_iconst (x := nI 1) dX3_takeRoot_5 (by decide) rfl ?_
  refine ks_callV (n := 2) (M' := mX5_loadSmall) (c_fd_loadSmall (d := d) (o := o) (v := 1) hC.2.1 (by omega) (by decide)) hC.2.1.1 cl_X5 rfl kx_145 kx_146 kx_147 kx_5 kx_148 (by decide +kernel) rfl (by decide) (Nat.le_of_ble_eq_true rfl) rfl dX3_takeRoot_6 rfl (fun z1 T1 y1 => ?_)
  obtain ⟨rfl, u1, f1⟩ := y1
  have C1 := hC.of u1 f1 (va_up_ne _ _ (by omega))
  refine ks_sipush (x := nI 255) dX3_takeRoot_9 (by decide) rfl ?_
  refine ks_ti (y := nI 256 - 1) (by decide) ?_
  refine ks_istore_n dX3_takeRoot_12 (by decide) rfl ?_
  refine ks_sub [(3, _), (0, _), (1, _), (2, _)] rfl ?_
  have h7 := loop 256 _ _ (Nat.le_refl _) u1 C1 (by rw [va_up_self]; decide) (fun j h => va_up_ne _ _ h)
  rw [va_up_self] at h7
  exact ks_sub [(0, _), (1, _), (2, _), (3, _)] rfl h7
